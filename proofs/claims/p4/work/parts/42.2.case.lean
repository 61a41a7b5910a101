set_option maxHeartbeats 8000000 in
set_option maxRecDepth 100000 in
theorem law_28 {p : Program} {l : Launch} {e : Env} {s : State} {m : MethodId} {below : List Frame} {meth : Method} {c : Code} {b L : Nat} {xs : Nat → Int32} (C0 : lw_At p s m meth c b L xs) (htl : ∀ w ∈ wsA, w.before #[Value.ref b] s = true) {D : va_G} {cy : Nat → ClassId} {ld ad : Nat → Nat} (hK : kk_K D cy ld s) (hZ0 : tk_Z ld (fun _ => (0, 0, 0)) s) {t : tk_T} {a0 am : Nat} {F : Nat → Int32} {G : Nat → Int64} {R : Nat → Nat → Int32} {S : Nat → Nat → Int64} {H : Heap} {locs : List Loc} (hI : lw_I D cy ld t ad a0 am s.heap.size F G R S H) (hJ : lw_J D ld t a0 F R H) (hS : va_S (fun q : Nat => s.heap.size ≤ q) s.heap H locs) (hS0 : s.heap.size ≤ H.size) (hL : L ≤ 3072) {v : Int32} {i : Int} (hv : v.toInt = i) (hi : 0 ≤ i) (hiL : i + 6 ≤ (L : Int)) {cells slots : Nat} (hc : cells + 7 ≤ 600000) (hs : slots + 1106 ≤ 7302250) (ls : Array Slot) (hl : lv_has ls 4 [(3, .int v), (2, .ref am), (1, .ref a0), (0, .ref b)]) (kk : ∀ (t : tk_T) (F : Nat → Int32) (G : Nat → Int64) (R : Nat → Nat → Int32) (S : Nat → Nat → Int64) (H : Heap) (locs : List Loc) (ls : Array Slot), lw_I D cy ld t ad a0 am s.heap.size F G R S H → lw_J D ld t a0 F R H → va_S (fun q : Nat => s.heap.size ≤ q) s.heap H locs → lv_has ls 4 [(3, .int v), (2, .ref am), (1, .ref a0), (0, .ref b)] → W p l e room_1 s m #[Value.ref b] below meth c H locs (cells + 7) (slots + 1106) (lw_Z below #[Value.ref b] s) (F0 m 1375 ls [])) : W p l e room_1 s m #[Value.ref b] below meth c H locs (cells) (slots) (lw_Z below #[Value.ref b] s) (F0 m 986 ls []) := by
  obtain ⟨hx, hb, hr, hml, hown, hts, hX, hbl, hlocks, hgv⟩ := id C0
  have hown : s.vm.findClass RL = some m.cls := hown
  have hbA : ¬ (fun q : Nat => s.heap.size ≤ q) b := Nat.not_le.mpr hbl
  obtain ⟨ht0, hG, hge, hD, hM, ⟨hIF, hIG, hIR⟩, hsep, hwge⟩ := hI
  have hZ := lw_Z0 hZ0 hge
  have hAZ : ∀ q : Nat, q < s.heap.size → (fun q : Nat => s.heap.size ≤ q) q → (t q).1 ≠ 0 := fun q h1 h2 => absurd h2 (Nat.not_le.mpr h1)
  obtain ⟨hT, ⟨n0, n1, n2, n3, fh, fs, fk, q1, q2, q3, hC, hR⟩, hKI, ⟨ft, htp, htr⟩, hj13, hj15⟩ := hJ
  obtain ⟨⟨e30, e31, e32, e33⟩, ⟨⟨b0, b1⟩, ⟨b2, b3⟩, ⟨b4, b5⟩, b6, b7⟩, -⟩ := id hR
  obtain ⟨y0, ey0⟩ : ∃ z : Int32, F 13 = z := ⟨_, rfl⟩
  have hy0 : 0 ≤ y0.toInt ∧ y0.toInt ≤ 400 := hIF.at ey0
  rw [ey0] at hj13 htr
  obtain ⟨y5, ey5⟩ : ∃ z : Int32, F 11 = z := ⟨_, rfl⟩
  rw [ey5] at hj15
  have hy5 := tk_rng y5
  obtain ⟨ht_ld20, ht_ld70, ht_ld80, ht_ld90, ht_ld100, ht_ld110, ht_ld120⟩ := id hT.1
  obtain ⟨ht_ld24, ht_ld76, ht_ld86, ht_ld96, ht_ld106, ht_ld116, ht_ld126⟩ := id hT.2.1
  obtain ⟨ht_ld25, ht_ld77, ht_ld87, ht_ld97, ht_ld107, ht_ld117, ht_ld127⟩ := id hT.2.2.1
  have ht_ld26 := hT.2.2.2.1
  have ht_ld49 := hT.2.2.2.2
  obtain ⟨x1, hx1⟩ : ∃ z, xs (v + 1 : Int32).toNatClampNeg = z := ⟨_, rfl⟩
  have hk1 : (1 : Int32).toInt = 1 := by decide
  refine lv_aload_n hx hb dL_law_986 rfl (lv_at hl 2 rfl) ?_
  refine lv_aload_n hx hb dL_law_987 rfl (lv_at hl 3 rfl) ?_
  refine lv_iload_n hx hb dL_law_988 rfl (lv_at hl 0 rfl) ?_
  refine lv_iconst (v := 1) hx hb dL_law_989 (by decide) ?_
  refine lv_iadd hx hb dL_law_990 ?_
  refine va_sld hx hb hX hbl hbA hS (lw_in hv hk1 (by omega) (by omega) (by omega) hL) dL_law_991 ?_
  refine fx_ti (v := x1) hx1 ?_
  refine tk_ViA (As := [.int x1]) (rest := []) (ci := 12) ⟨hx, hb, hml, hown, htl⟩ hK hG hZ hAZ hS (k_X12_champions l D cy ld t a0 x1 ht0) trivial ⟨callB_of 1 htl (wl_inL mw_1410) rfl rfl rfl (htl _ mw_2) (htl _ mw_1407) hd_yX12_champions ⟨(Nat.le_of_ble_eq_true rfl), (Nat.le_of_ble_eq_true rfl)⟩, htl _ mw_1408, htl _ mw_1409⟩ ht0 (by decide) tk_no rfl (fun q h => hge q h.1) rfl hl.1 rfl (Nat.le_of_ble_eq_true rfl) dL_law_992 ⟨by show cells + 0 ≤ 600000; omega, by show slots + 0 ≤ 7302250; omega⟩ (fun r1 H locs hpo1 hG hS hz9 hq9 => ?_)
  have hC := jC.call hT.1 hC hq9 (by decide)
  have hKI := jK.call hT hKI hq9 (by decide) (by decide) (by decide)
  have htp := htp.call hq9 (tk_w.no ht_ld26 (by decide))
  have hj13 := hj13.call hq9 (tk_w.no ht0 (by decide))
  have hj15 := hj15.call hq9 (tk_w.no ht0 (by decide))
  have hM := hM.frame (H1 := H) (fun q hq => hq9 q (hM.lt hq) (fun h => hsep q h.1 hq))
  refine lv_pop hx hb dL_law_995 rfl ?_
  refine lv_aload_n hx hb dL_law_996 rfl (lv_at hl 1 rfl) ?_
  refine lv_aload_n hx hb dL_law_997 rfl (lv_at hl 3 rfl) ?_
  refine lv_iload_n hx hb dL_law_998 rfl (lv_at hl 0 rfl) ?_
  refine lv_iconst (v := 1) hx hb dL_law_999 (by decide) ?_
  refine lv_iadd hx hb dL_law_1000 ?_
  refine va_sld hx hb hX hbl hbA hS (lw_in hv hk1 (by omega) (by omega) (by omega) hL) dL_law_1001 ?_
  refine fx_ti (v := x1) hx1 ?_
  refine mz_ViA (As := [.int x1]) (rest := []) ⟨hx, hb, hml, hown, htl⟩ hK hM hS (fun q h => hwge q h) (k_X13_champions l D cy ld ad am hD _ _ _ _ x1 hIF hIG hIR) ⟨callB_of 1 htl (wl_inL mw_1432) rfl rfl rfl (htl _ mw_5) (htl _ mw_1429) hd_yX13_champions ⟨(Nat.le_of_ble_eq_true rfl), (Nat.le_of_ble_eq_true rfl)⟩, htl _ mw_1430, htl _ mw_1431⟩ rfl hl.1 rfl (Nat.le_of_ble_eq_true rfl) dL_law_1002 ⟨by show cells + 0 + 0 ≤ 600000; omega, by show slots + 0 + 0 ≤ 7302250; omega⟩ (fun r2 H locs F G R S hpo hM hS hz9 hq9 => ?_)
  have hall := fun (q : Nat) (hq : (t q).1 ≠ 0) => hq9 q (hG.lt hq) (hsep q hq)
  have hG := hG.frame (H1 := H) hall
  have hC := jC.all hT.1 hC hall
  have hKI := jK.all hT hKI hall
  have htp := htp.kept (hall _ (by rw [ht_ld26]; exact Nat.succ_ne_zero _))
  have hj13 := hj13.kept (hall _ (by rw [ht0]; exact Nat.succ_ne_zero _))
  have hj15 := hj15.kept (hall _ (by rw [ht0]; exact Nat.succ_ne_zero _))
  obtain ⟨hIF, hIG, hIR, hfr9, hrr9, hgr9, hrel9⟩ := hpo
  have hR := hR.rel hrel9.k3
  have hKI : jK D ld (R 4) (R 5) H := by rw [hrr9 4 (by decide), hrr9 5 (by decide)]; exact hKI
  have eF13 := (hfr9 13 (by decide)).trans ey0
  have htr : ∀ j : Nat, (j : Int) < y0.toInt → ft j = R 12 j := by rw [hrr9 12 (by decide)]; exact htr
  have eF11 := (hfr9 11 (by decide)).trans ey5
  have hJ9 : lw_J D ld t a0 F R H := ⟨hT, ⟨_, _, _, _, _, _, _, _, _, _, hC, hR⟩, hKI, ⟨_, htp, by rw [eF13]; exact htr⟩, by rw [eF13]; exact hj13, by rw [eF11]; exact hj15⟩
  refine lv_pop hx hb dL_law_1005 rfl ?_
  refine lv_goto (tgt := 1375) hx hb dL_law_1006 (by decide) ?_
  refine W.widen (k := cells + 7) (n := slots + 1106) (by exact Nat.le_add_right _ _) (by exact Nat.le_add_right _ _) ?_
  exact kk t F G R S H locs ls ⟨ht0, hG, hge, hD, hM, ⟨hIF, hIG, hIR⟩, hsep, hwge⟩ hJ9 hS hl
set_option maxHeartbeats 8000000 in
set_option maxRecDepth 100000 in
theorem law_29 {p : Program} {l : Launch} {e : Env} {s : State} {m : MethodId} {below : List Frame} {meth : Method} {c : Code} {b L : Nat} {xs : Nat → Int32} (C0 : lw_At p s m meth c b L xs) (htl : ∀ w ∈ wsA, w.before #[Value.ref b] s = true) {D : va_G} {cy : Nat → ClassId} {ld ad : Nat → Nat} (hK : kk_K D cy ld s) (hZ0 : tk_Z ld (fun _ => (0, 0, 0)) s) {t : tk_T} {a0 am : Nat} {F : Nat → Int32} {G : Nat → Int64} {R : Nat → Nat → Int32} {S : Nat → Nat → Int64} {H : Heap} {locs : List Loc} (hI : lw_I D cy ld t ad a0 am s.heap.size F G R S H) (hJ : lw_J D ld t a0 F R H) (hS : va_S (fun q : Nat => s.heap.size ≤ q) s.heap H locs) (hS0 : s.heap.size ≤ H.size) (hL : L ≤ 3072) {v : Int32} {i : Int} (hv : v.toInt = i) (hi : 0 ≤ i) (hiL : i + 6 ≤ (L : Int)) {cells slots : Nat} (hc : cells + 7 ≤ 600000) (hs : slots + 1106 ≤ 7302250) (ls : Array Slot) (hl : lv_has ls 4 [(3, .int v), (2, .ref am), (1, .ref a0), (0, .ref b)]) (kk : ∀ (t : tk_T) (F : Nat → Int32) (G : Nat → Int64) (R : Nat → Nat → Int32) (S : Nat → Nat → Int64) (H : Heap) (locs : List Loc) (ls : Array Slot), lw_I D cy ld t ad a0 am s.heap.size F G R S H → lw_J D ld t a0 F R H → va_S (fun q : Nat => s.heap.size ≤ q) s.heap H locs → lv_has ls 4 [(3, .int v), (2, .ref am), (1, .ref a0), (0, .ref b)] → W p l e room_1 s m #[Value.ref b] below meth c H locs (cells + 7) (slots + 1106) (lw_Z below #[Value.ref b] s) (F0 m 1375 ls [])) : W p l e room_1 s m #[Value.ref b] below meth c H locs (cells) (slots) (lw_Z below #[Value.ref b] s) (F0 m 1009 ls []) := by
  obtain ⟨hx, hb, hr, hml, hown, hts, hX, hbl, hlocks, hgv⟩ := id C0
  have hown : s.vm.findClass RL = some m.cls := hown
  have hbA : ¬ (fun q : Nat => s.heap.size ≤ q) b := Nat.not_le.mpr hbl
  obtain ⟨ht0, hG, hge, hD, hM, ⟨hIF, hIG, hIR⟩, hsep, hwge⟩ := hI
  have hZ := lw_Z0 hZ0 hge
  have hAZ : ∀ q : Nat, q < s.heap.size → (fun q : Nat => s.heap.size ≤ q) q → (t q).1 ≠ 0 := fun q h1 h2 => absurd h2 (Nat.not_le.mpr h1)
  obtain ⟨hT, ⟨n0, n1, n2, n3, fh, fs, fk, q1, q2, q3, hC, hR⟩, hKI, ⟨ft, htp, htr⟩, hj13, hj15⟩ := hJ
  obtain ⟨⟨e30, e31, e32, e33⟩, ⟨⟨b0, b1⟩, ⟨b2, b3⟩, ⟨b4, b5⟩, b6, b7⟩, -⟩ := id hR
  obtain ⟨y0, ey0⟩ : ∃ z : Int32, F 13 = z := ⟨_, rfl⟩
  have hy0 : 0 ≤ y0.toInt ∧ y0.toInt ≤ 400 := hIF.at ey0
  rw [ey0] at hj13 htr
  obtain ⟨y5, ey5⟩ : ∃ z : Int32, F 11 = z := ⟨_, rfl⟩
  rw [ey5] at hj15
  have hy5 := tk_rng y5
  obtain ⟨ht_ld20, ht_ld70, ht_ld80, ht_ld90, ht_ld100, ht_ld110, ht_ld120⟩ := id hT.1
  obtain ⟨ht_ld24, ht_ld76, ht_ld86, ht_ld96, ht_ld106, ht_ld116, ht_ld126⟩ := id hT.2.1
  obtain ⟨ht_ld25, ht_ld77, ht_ld87, ht_ld97, ht_ld107, ht_ld117, ht_ld127⟩ := id hT.2.2.1
  have ht_ld26 := hT.2.2.2.1
  have ht_ld49 := hT.2.2.2.2
  obtain ⟨x1, hx1⟩ : ∃ z, xs (v + 1 : Int32).toNatClampNeg = z := ⟨_, rfl⟩
  have hk1 : (1 : Int32).toInt = 1 := by decide
  obtain ⟨x2, hx2⟩ : ∃ z, xs (v + 2 : Int32).toNatClampNeg = z := ⟨_, rfl⟩
  have hk2 : (2 : Int32).toInt = 2 := by decide
  refine lv_aload_n hx hb dL_law_1009 rfl (lv_at hl 2 rfl) ?_
  refine lv_aload_n hx hb dL_law_1010 rfl (lv_at hl 3 rfl) ?_
  refine lv_iload_n hx hb dL_law_1011 rfl (lv_at hl 0 rfl) ?_
  refine lv_iconst (v := 1) hx hb dL_law_1012 (by decide) ?_
  refine lv_iadd hx hb dL_law_1013 ?_
  refine va_sld hx hb hX hbl hbA hS (lw_in hv hk1 (by omega) (by omega) (by omega) hL) dL_law_1014 ?_
  refine fx_ti (v := x1) hx1 ?_
  refine lv_aload_n hx hb dL_law_1015 rfl (lv_at hl 3 rfl) ?_
  refine lv_iload_n hx hb dL_law_1016 rfl (lv_at hl 0 rfl) ?_
  refine lv_iconst (v := 2) hx hb dL_law_1017 (by decide) ?_
  refine lv_iadd hx hb dL_law_1018 ?_
  refine va_sld hx hb hX hbl hbA hS (lw_in hv hk2 (by omega) (by omega) (by omega) hL) dL_law_1019 ?_
  refine fx_ti (v := x2) hx2 ?_
  refine tk_ViA (As := [.int x1, .int x2]) (rest := []) (ci := 12) ⟨hx, hb, hml, hown, htl⟩ hK hG hZ hAZ hS (k_X12_made l D cy ld t a0 x1 x2 ht0) trivial ⟨callB_of 2 htl (wl_inL mw_1450) rfl rfl rfl (htl _ mw_2) (htl _ mw_1447) hd_yX12_made ⟨(Nat.le_of_ble_eq_true rfl), (Nat.le_of_ble_eq_true rfl)⟩, htl _ mw_1448, htl _ mw_1449⟩ ht0 (by decide) tk_no rfl (fun q h => hge q h.1) rfl hl.1 rfl (Nat.le_of_ble_eq_true rfl) dL_law_1020 ⟨by show cells + 0 ≤ 600000; omega, by show slots + 0 ≤ 7302250; omega⟩ (fun r1 H locs hpo1 hG hS hz9 hq9 => ?_)
  have hC := jC.call hT.1 hC hq9 (by decide)
  have hKI := jK.call hT hKI hq9 (by decide) (by decide) (by decide)
  have htp := htp.call hq9 (tk_w.no ht_ld26 (by decide))
  have hj13 := hj13.call hq9 (tk_w.no ht0 (by decide))
  have hj15 := hj15.call hq9 (tk_w.no ht0 (by decide))
  have hM := hM.frame (H1 := H) (fun q hq => hq9 q (hM.lt hq) (fun h => hsep q h.1 hq))
  refine lv_pop hx hb dL_law_1023 rfl ?_
  refine lv_aload_n hx hb dL_law_1024 rfl (lv_at hl 1 rfl) ?_
  refine lv_aload_n hx hb dL_law_1025 rfl (lv_at hl 3 rfl) ?_
  refine lv_iload_n hx hb dL_law_1026 rfl (lv_at hl 0 rfl) ?_
  refine lv_iconst (v := 1) hx hb dL_law_1027 (by decide) ?_
  refine lv_iadd hx hb dL_law_1028 ?_
  refine va_sld hx hb hX hbl hbA hS (lw_in hv hk1 (by omega) (by omega) (by omega) hL) dL_law_1029 ?_
  refine fx_ti (v := x1) hx1 ?_
  refine lv_aload_n hx hb dL_law_1030 rfl (lv_at hl 3 rfl) ?_
  refine lv_iload_n hx hb dL_law_1031 rfl (lv_at hl 0 rfl) ?_
  refine lv_iconst (v := 2) hx hb dL_law_1032 (by decide) ?_
  refine lv_iadd hx hb dL_law_1033 ?_
  refine va_sld hx hb hX hbl hbA hS (lw_in hv hk2 (by omega) (by omega) (by omega) hL) dL_law_1034 ?_
  refine fx_ti (v := x2) hx2 ?_
  refine mz_ViA (As := [.int x1, .int x2]) (rest := []) ⟨hx, hb, hml, hown, htl⟩ hK hM hS (fun q h => hwge q h) (k_X13_made l D cy ld ad am hD _ _ _ _ x1 x2 hIF hIG hIR) ⟨callB_of 2 htl (wl_inL mw_1469) rfl rfl rfl (htl _ mw_5) (htl _ mw_1466) hd_yX13_made ⟨(Nat.le_of_ble_eq_true rfl), (Nat.le_of_ble_eq_true rfl)⟩, htl _ mw_1467, htl _ mw_1468⟩ rfl hl.1 rfl (Nat.le_of_ble_eq_true rfl) dL_law_1035 ⟨by show cells + 0 + 0 ≤ 600000; omega, by show slots + 0 + 0 ≤ 7302250; omega⟩ (fun r2 H locs F G R S hpo hM hS hz9 hq9 => ?_)
  have hall := fun (q : Nat) (hq : (t q).1 ≠ 0) => hq9 q (hG.lt hq) (hsep q hq)
  have hG := hG.frame (H1 := H) hall
  have hC := jC.all hT.1 hC hall
  have hKI := jK.all hT hKI hall
  have htp := htp.kept (hall _ (by rw [ht_ld26]; exact Nat.succ_ne_zero _))
  have hj13 := hj13.kept (hall _ (by rw [ht0]; exact Nat.succ_ne_zero _))
  have hj15 := hj15.kept (hall _ (by rw [ht0]; exact Nat.succ_ne_zero _))
  obtain ⟨hIF, hIG, hIR, hfr9, hrr9, hgr9⟩ := hpo
  have hR := hR.rel (rK3.refl (hrr9 3 (by decide)))
  have hKI : jK D ld (R 4) (R 5) H := by rw [hrr9 4 (by decide), hrr9 5 (by decide)]; exact hKI
  have eF13 := (hfr9 13 (by decide)).trans ey0
  have htr : ∀ j : Nat, (j : Int) < y0.toInt → ft j = R 12 j := by rw [hrr9 12 (by decide)]; exact htr
  have eF11 := (hfr9 11 (by decide)).trans ey5
  have hJ9 : lw_J D ld t a0 F R H := ⟨hT, ⟨_, _, _, _, _, _, _, _, _, _, hC, hR⟩, hKI, ⟨_, htp, by rw [eF13]; exact htr⟩, by rw [eF13]; exact hj13, by rw [eF11]; exact hj15⟩
  refine lv_pop hx hb dL_law_1038 rfl ?_
  refine lv_goto (tgt := 1375) hx hb dL_law_1039 (by decide) ?_
  refine W.widen (k := cells + 7) (n := slots + 1106) (by exact Nat.le_add_right _ _) (by exact Nat.le_add_right _ _) ?_
  exact kk t F G R S H locs ls ⟨ht0, hG, hge, hD, hM, ⟨hIF, hIG, hIR⟩, hsep, hwge⟩ hJ9 hS hl
set_option maxHeartbeats 8000000 in
set_option maxRecDepth 100000 in
theorem law_30 {p : Program} {l : Launch} {e : Env} {s : State} {m : MethodId} {below : List Frame} {meth : Method} {c : Code} {b L : Nat} {xs : Nat → Int32} (C0 : lw_At p s m meth c b L xs) (htl : ∀ w ∈ wsA, w.before #[Value.ref b] s = true) {D : va_G} {cy : Nat → ClassId} {ld ad : Nat → Nat} (hK : kk_K D cy ld s) (hZ0 : tk_Z ld (fun _ => (0, 0, 0)) s) {t : tk_T} {a0 am : Nat} {F : Nat → Int32} {G : Nat → Int64} {R : Nat → Nat → Int32} {S : Nat → Nat → Int64} {H : Heap} {locs : List Loc} (hI : lw_I D cy ld t ad a0 am s.heap.size F G R S H) (hJ : lw_J D ld t a0 F R H) (hS : va_S (fun q : Nat => s.heap.size ≤ q) s.heap H locs) (hS0 : s.heap.size ≤ H.size) (hL : L ≤ 3072) {v : Int32} {i : Int} (hv : v.toInt = i) (hi : 0 ≤ i) (hiL : i + 6 ≤ (L : Int)) {cells slots : Nat} (hc : cells + 7 ≤ 600000) (hs : slots + 1106 ≤ 7302250) (ls : Array Slot) (hl : lv_has ls 4 [(3, .int v), (2, .ref am), (1, .ref a0), (0, .ref b)]) (kk : ∀ (t : tk_T) (F : Nat → Int32) (G : Nat → Int64) (R : Nat → Nat → Int32) (S : Nat → Nat → Int64) (H : Heap) (locs : List Loc) (ls : Array Slot), lw_I D cy ld t ad a0 am s.heap.size F G R S H → lw_J D ld t a0 F R H → va_S (fun q : Nat => s.heap.size ≤ q) s.heap H locs → lv_has ls 4 [(3, .int v), (2, .ref am), (1, .ref a0), (0, .ref b)] → W p l e room_1 s m #[Value.ref b] below meth c H locs (cells + 7) (slots + 1106) (lw_Z below #[Value.ref b] s) (F0 m 1375 ls [])) : W p l e room_1 s m #[Value.ref b] below meth c H locs (cells) (slots) (lw_Z below #[Value.ref b] s) (F0 m 1042 ls []) := by
  obtain ⟨hx, hb, hr, hml, hown, hts, hX, hbl, hlocks, hgv⟩ := id C0
  have hown : s.vm.findClass RL = some m.cls := hown
  have hbA : ¬ (fun q : Nat => s.heap.size ≤ q) b := Nat.not_le.mpr hbl
  obtain ⟨ht0, hG, hge, hD, hM, ⟨hIF, hIG, hIR⟩, hsep, hwge⟩ := hI
  have hZ := lw_Z0 hZ0 hge
  have hAZ : ∀ q : Nat, q < s.heap.size → (fun q : Nat => s.heap.size ≤ q) q → (t q).1 ≠ 0 := fun q h1 h2 => absurd h2 (Nat.not_le.mpr h1)
  obtain ⟨hT, ⟨n0, n1, n2, n3, fh, fs, fk, q1, q2, q3, hC, hR⟩, hKI, ⟨ft, htp, htr⟩, hj13, hj15⟩ := hJ
  obtain ⟨⟨e30, e31, e32, e33⟩, ⟨⟨b0, b1⟩, ⟨b2, b3⟩, ⟨b4, b5⟩, b6, b7⟩, -⟩ := id hR
  obtain ⟨y0, ey0⟩ : ∃ z : Int32, F 13 = z := ⟨_, rfl⟩
  have hy0 : 0 ≤ y0.toInt ∧ y0.toInt ≤ 400 := hIF.at ey0
  rw [ey0] at hj13 htr
  obtain ⟨y5, ey5⟩ : ∃ z : Int32, F 11 = z := ⟨_, rfl⟩
  rw [ey5] at hj15
  have hy5 := tk_rng y5
  obtain ⟨ht_ld20, ht_ld70, ht_ld80, ht_ld90, ht_ld100, ht_ld110, ht_ld120⟩ := id hT.1
  obtain ⟨ht_ld24, ht_ld76, ht_ld86, ht_ld96, ht_ld106, ht_ld116, ht_ld126⟩ := id hT.2.1
  obtain ⟨ht_ld25, ht_ld77, ht_ld87, ht_ld97, ht_ld107, ht_ld117, ht_ld127⟩ := id hT.2.2.1
  have ht_ld26 := hT.2.2.2.1
  have ht_ld49 := hT.2.2.2.2
  obtain ⟨x1, hx1⟩ : ∃ z, xs (v + 1 : Int32).toNatClampNeg = z := ⟨_, rfl⟩
  have hk1 : (1 : Int32).toInt = 1 := by decide
  obtain ⟨x2, hx2⟩ : ∃ z, xs (v + 2 : Int32).toNatClampNeg = z := ⟨_, rfl⟩
  have hk2 : (2 : Int32).toInt = 2 := by decide
  obtain ⟨x3, hx3⟩ : ∃ z, xs (v + 3 : Int32).toNatClampNeg = z := ⟨_, rfl⟩
  have hk3 : (3 : Int32).toInt = 3 := by decide
  obtain ⟨x4, hx4⟩ : ∃ z, xs (v + 4 : Int32).toNatClampNeg = z := ⟨_, rfl⟩
  have hk4 : (4 : Int32).toInt = 4 := by decide
  obtain ⟨x5, hx5⟩ : ∃ z, xs (v + 5 : Int32).toNatClampNeg = z := ⟨_, rfl⟩
  have hk5 : (5 : Int32).toInt = 5 := by decide
  have hsp : (x3.toInt ≤ (-1)) ∨ (12 ≤ x3.toInt) ∨ (x4.toInt ≤ (-1)) ∨ (2 ≤ x4.toInt) ∨ (x5.toInt ≤ (-1)) ∨ (2 ≤ x5.toInt) ∨ (0 ≤ x3.toInt ∧ x3.toInt ≤ 11 ∧ 0 ≤ x4.toInt ∧ x4.toInt ≤ 1 ∧ 0 ≤ x5.toInt ∧ x5.toInt ≤ 1 ∧ x1.toInt ≤ (-1)) ∨ (0 ≤ x3.toInt ∧ x3.toInt ≤ 11 ∧ 0 ≤ x4.toInt ∧ x4.toInt ≤ 1 ∧ 0 ≤ x5.toInt ∧ x5.toInt ≤ 1 ∧ 0 ≤ (-1) * n1.toInt + x1.toInt) ∨ (0 ≤ x3.toInt ∧ x3.toInt ≤ 11 ∧ 0 ≤ x4.toInt ∧ x4.toInt ≤ 1 ∧ 0 ≤ x5.toInt ∧ x5.toInt ≤ 1 ∧ x2.toInt ≤ (-1)) ∨ (0 ≤ x3.toInt ∧ x3.toInt ≤ 11 ∧ 0 ≤ x4.toInt ∧ x4.toInt ≤ 1 ∧ 0 ≤ x5.toInt ∧ x5.toInt ≤ 1 ∧ 0 ≤ (-1) * n0.toInt + x2.toInt) ∨ (0 ≤ x3.toInt ∧ x3.toInt ≤ 11 ∧ 0 ≤ x4.toInt ∧ x4.toInt ≤ 1 ∧ 0 ≤ x5.toInt ∧ x5.toInt ≤ 1 ∧ 0 ≤ x1.toInt ∧ 0 ≤ n1.toInt + (-1) * x1.toInt + (-1) ∧ 0 ≤ x2.toInt ∧ 0 ≤ n0.toInt + (-1) * x2.toInt + (-1) ∧ n3.toInt ≤ 7) ∨ (0 ≤ x3.toInt ∧ x3.toInt ≤ 11 ∧ 0 ≤ x4.toInt ∧ x4.toInt ≤ 1 ∧ 0 ≤ x5.toInt ∧ x5.toInt ≤ 1 ∧ 0 ≤ x1.toInt ∧ 0 ≤ n1.toInt + (-1) * x1.toInt + (-1) ∧ 0 ≤ x2.toInt ∧ 0 ≤ n0.toInt + (-1) * x2.toInt + (-1) ∧ 8 ≤ n3.toInt) := by omega
  refine lv_aload_n hx hb dL_law_1042 rfl (lv_at hl 2 rfl) ?_
  refine lv_aload_n hx hb dL_law_1043 rfl (lv_at hl 3 rfl) ?_
  refine lv_iload_n hx hb dL_law_1044 rfl (lv_at hl 0 rfl) ?_
  refine lv_iconst (v := 1) hx hb dL_law_1045 (by decide) ?_
  refine lv_iadd hx hb dL_law_1046 ?_
  refine va_sld hx hb hX hbl hbA hS (lw_in hv hk1 (by omega) (by omega) (by omega) hL) dL_law_1047 ?_
  refine fx_ti (v := x1) hx1 ?_
  refine lv_aload_n hx hb dL_law_1048 rfl (lv_at hl 3 rfl) ?_
  refine lv_iload_n hx hb dL_law_1049 rfl (lv_at hl 0 rfl) ?_
  refine lv_iconst (v := 2) hx hb dL_law_1050 (by decide) ?_
  refine lv_iadd hx hb dL_law_1051 ?_
  refine va_sld hx hb hX hbl hbA hS (lw_in hv hk2 (by omega) (by omega) (by omega) hL) dL_law_1052 ?_
  refine fx_ti (v := x2) hx2 ?_
  refine lv_aload_n hx hb dL_law_1053 rfl (lv_at hl 3 rfl) ?_
  refine lv_iload_n hx hb dL_law_1054 rfl (lv_at hl 0 rfl) ?_
  refine lv_iconst (v := 3) hx hb dL_law_1055 (by decide) ?_
  refine lv_iadd hx hb dL_law_1056 ?_
  refine va_sld hx hb hX hbl hbA hS (lw_in hv hk3 (by omega) (by omega) (by omega) hL) dL_law_1057 ?_
  refine fx_ti (v := x3) hx3 ?_
  refine lv_aload_n hx hb dL_law_1058 rfl (lv_at hl 3 rfl) ?_
  refine lv_iload_n hx hb dL_law_1059 rfl (lv_at hl 0 rfl) ?_
  refine lv_iconst (v := 4) hx hb dL_law_1060 (by decide) ?_
  refine lv_iadd hx hb dL_law_1061 ?_
  refine va_sld hx hb hX hbl hbA hS (lw_in hv hk4 (by omega) (by omega) (by omega) hL) dL_law_1062 ?_
  refine fx_ti (v := x4) hx4 ?_
  refine lv_aload_n hx hb dL_law_1063 rfl (lv_at hl 3 rfl) ?_
  refine lv_iload_n hx hb dL_law_1064 rfl (lv_at hl 0 rfl) ?_
  refine lv_iconst (v := 5) hx hb dL_law_1065 (by decide) ?_
  refine lv_iadd hx hb dL_law_1066 ?_
  refine va_sld hx hb hX hbl hbA hS (lw_in hv hk5 (by omega) (by omega) (by omega) hL) dL_law_1067 ?_
  refine fx_ti (v := x5) hx5 ?_
  refine tk_ViA (As := [.int x1, .int x2, .int x3, .int x4, .int x5]) (rest := []) (ci := 12) ⟨hx, hb, hml, hown, htl⟩ hK hG hZ hAZ hS (k_X12_sight_x l D cy ld t a0 x1 x2 x3 x4 x5 y0 y5 n0 n1 n2 n3 fh fs fk q1 q2 q3 ht0 ht_ld20 ht_ld70 ht_ld80 ht_ld90 ht_ld100 ht_ld110 ht_ld120 (by omega) (by omega) (by omega) (by omega) (by omega) (by omega) (by omega) (by omega) (by omega) (by omega) (by omega) (by omega)) ⟨hj13, hj15, hC⟩ ⟨callB_of 5 htl (wl_inL mw_1484) rfl rfl rfl (htl _ mw_2) (htl _ mw_1481) hd_yX12_sight ⟨(Nat.le_of_ble_eq_true rfl), (Nat.le_of_ble_eq_true rfl)⟩, htl _ mw_1482, htl _ mw_1483⟩ ht0 (by decide) tk_no rfl (fun q h => hge q h.1) rfl hl.1 rfl (Nat.le_of_ble_eq_true rfl) dL_law_1068 ⟨by show cells + 0 ≤ 600000; omega, by show slots + 0 ≤ 7302250; omega⟩ (fun r1 H locs hpo1 hG hS hz9 hq9 => ?_)
  obtain ⟨hp1_0, hp1_1, hp1_2, hp1_3, hp1_4, hp1_5, hp1_6, hp1_7, hp1_8, hp1_9, hp1_10, hp1_11, hp1_12, hj13, hj15, ⟨wn3, hC, hw0, hw1⟩⟩ := hpo1
  have hKI := jK.call hT hKI hq9 (by decide) (by decide) (by decide)
  have htp := htp.call hq9 (tk_w.no ht_ld26 (by decide))
  have hM := hM.frame (H1 := H) (fun q hq => hq9 q (hM.lt hq) (fun h => hsep q h.1 hq))
  refine lv_pop hx hb dL_law_1071 rfl ?_
  refine lv_aload_n hx hb dL_law_1072 rfl (lv_at hl 1 rfl) ?_
  refine lv_aload_n hx hb dL_law_1073 rfl (lv_at hl 3 rfl) ?_
  refine lv_iload_n hx hb dL_law_1074 rfl (lv_at hl 0 rfl) ?_
  refine lv_iconst (v := 1) hx hb dL_law_1075 (by decide) ?_
  refine lv_iadd hx hb dL_law_1076 ?_
  refine va_sld hx hb hX hbl hbA hS (lw_in hv hk1 (by omega) (by omega) (by omega) hL) dL_law_1077 ?_
  refine fx_ti (v := x1) hx1 ?_
  refine lv_aload_n hx hb dL_law_1078 rfl (lv_at hl 3 rfl) ?_
  refine lv_iload_n hx hb dL_law_1079 rfl (lv_at hl 0 rfl) ?_
  refine lv_iconst (v := 2) hx hb dL_law_1080 (by decide) ?_
  refine lv_iadd hx hb dL_law_1081 ?_
  refine va_sld hx hb hX hbl hbA hS (lw_in hv hk2 (by omega) (by omega) (by omega) hL) dL_law_1082 ?_
  refine fx_ti (v := x2) hx2 ?_
  refine lv_aload_n hx hb dL_law_1083 rfl (lv_at hl 3 rfl) ?_
  refine lv_iload_n hx hb dL_law_1084 rfl (lv_at hl 0 rfl) ?_
  refine lv_iconst (v := 3) hx hb dL_law_1085 (by decide) ?_
  refine lv_iadd hx hb dL_law_1086 ?_
  refine va_sld hx hb hX hbl hbA hS (lw_in hv hk3 (by omega) (by omega) (by omega) hL) dL_law_1087 ?_
  refine fx_ti (v := x3) hx3 ?_
  refine lv_aload_n hx hb dL_law_1088 rfl (lv_at hl 3 rfl) ?_
  refine lv_iload_n hx hb dL_law_1089 rfl (lv_at hl 0 rfl) ?_
  refine lv_iconst (v := 4) hx hb dL_law_1090 (by decide) ?_
  refine lv_iadd hx hb dL_law_1091 ?_
  refine va_sld hx hb hX hbl hbA hS (lw_in hv hk4 (by omega) (by omega) (by omega) hL) dL_law_1092 ?_
  refine fx_ti (v := x4) hx4 ?_
  refine lv_aload_n hx hb dL_law_1093 rfl (lv_at hl 3 rfl) ?_
  refine lv_iload_n hx hb dL_law_1094 rfl (lv_at hl 0 rfl) ?_
  refine lv_iconst (v := 5) hx hb dL_law_1095 (by decide) ?_
  refine lv_iadd hx hb dL_law_1096 ?_
  refine va_sld hx hb hX hbl hbA hS (lw_in hv hk5 (by omega) (by omega) (by omega) hL) dL_law_1097 ?_
  refine fx_ti (v := x5) hx5 ?_
  refine mz_ViA (As := [.int x1, .int x2, .int x3, .int x4, .int x5]) (rest := []) ⟨hx, hb, hml, hown, htl⟩ hK hM hS (fun q h => hwge q h) (k_X13_sight_x l D cy ld ad am hD _ _ _ _ x1 x2 x3 x4 x5 _ _ _ hIF hIG hIR e30 e31 e33) ⟨callB_of 5 htl (wl_inL mw_1493) rfl rfl rfl (htl _ mw_5) (htl _ mw_1490) hd_yX13_sight ⟨(Nat.le_of_ble_eq_true rfl), (Nat.le_of_ble_eq_true rfl)⟩, htl _ mw_1491, htl _ mw_1492⟩ rfl hl.1 rfl (Nat.le_of_ble_eq_true rfl) dL_law_1098 ⟨by show cells + 0 + 0 ≤ 600000; omega, by show slots + 0 + 0 ≤ 7302250; omega⟩ (fun r2 H locs F G R S hpo hM hS hz9 hq9 => ?_)
  have hall := fun (q : Nat) (hq : (t q).1 ≠ 0) => hq9 q (hG.lt hq) (hsep q hq)
  have hG := hG.frame (H1 := H) hall
  have hC := jC.all hT.1 hC hall
  have hKI := jK.all hT hKI hall
  have htp := htp.kept (hall _ (by rw [ht_ld26]; exact Nat.succ_ne_zero _))
  have hj13 := hj13.kept (hall _ (by rw [ht0]; exact Nat.succ_ne_zero _))
  have hj15 := hj15.kept (hall _ (by rw [ht0]; exact Nat.succ_ne_zero _))
  obtain ⟨hIF, hIG, hIR, hfr9, hrr9, hgr9, hp2_0, hp2_1, hp2_2, hp2_3, hp2_4, hp2_5, hp2_6, hp2_7, hp2_8, hp2_9, hp2_10, hp2_11, hp2_12⟩ := hpo
  have hv9 : r1.toInt = r2.toInt := by
    rcases hsp with h | h | h | h | h | h | h | h | h | h | h | h
    · exact jq1 (hp1_0 (h)) (hp2_0 (h))
    · exact jq1 (hp1_1 (h)) (hp2_1 (h))
    · exact jq1 (hp1_2 (h)) (hp2_2 (h))
    · exact jq1 (hp1_3 (h)) (hp2_3 (h))
    · exact jq1 (hp1_4 (h)) (hp2_4 (h))
    · exact jq1 (hp1_5 (h)) (hp2_5 (h))
    · exact jq1 (hp1_6 (h.1) (h.2.1) (h.2.2.1) (h.2.2.2.1) (h.2.2.2.2.1) (h.2.2.2.2.2.1) (h.2.2.2.2.2.2)) (hp2_6 (h.1) (h.2.1) (h.2.2.1) (h.2.2.2.1) (h.2.2.2.2.1) (h.2.2.2.2.2.1) (h.2.2.2.2.2.2))
    · exact jq1 (hp1_7 (h.1) (h.2.1) (h.2.2.1) (h.2.2.2.1) (h.2.2.2.2.1) (h.2.2.2.2.2.1) (h.2.2.2.2.2.2)) (hp2_7 (h.1) (h.2.1) (h.2.2.1) (h.2.2.2.1) (h.2.2.2.2.1) (h.2.2.2.2.2.1) (h.2.2.2.2.2.2))
    · exact jq1 (hp1_8 (h.1) (h.2.1) (h.2.2.1) (h.2.2.2.1) (h.2.2.2.2.1) (h.2.2.2.2.2.1) (h.2.2.2.2.2.2)) (hp2_8 (h.1) (h.2.1) (h.2.2.1) (h.2.2.2.1) (h.2.2.2.2.1) (h.2.2.2.2.2.1) (h.2.2.2.2.2.2))
    · exact jq1 (hp1_9 (h.1) (h.2.1) (h.2.2.1) (h.2.2.2.1) (h.2.2.2.2.1) (h.2.2.2.2.2.1) (h.2.2.2.2.2.2)) (hp2_9 (h.1) (h.2.1) (h.2.2.1) (h.2.2.2.1) (h.2.2.2.2.1) (h.2.2.2.2.2.1) (h.2.2.2.2.2.2))
    · exact jq3 (hp1_10 (h.1) (h.2.1) (h.2.2.1) (h.2.2.2.1) (h.2.2.2.2.1) (h.2.2.2.2.2.1) (h.2.2.2.2.2.2.1) (h.2.2.2.2.2.2.2.1) (h.2.2.2.2.2.2.2.2.1) (h.2.2.2.2.2.2.2.2.2.1) (h.2.2.2.2.2.2.2.2.2.2)) (hp2_10 (h.1) (h.2.1) (h.2.2.1) (h.2.2.2.1) (h.2.2.2.2.1) (h.2.2.2.2.2.1) (h.2.2.2.2.2.2.1) (h.2.2.2.2.2.2.2.1) (h.2.2.2.2.2.2.2.2.1) (h.2.2.2.2.2.2.2.2.2.1) (h.2.2.2.2.2.2.2.2.2.2))
    · exact jq1 (hp1_11 (h.1) (h.2.1) (h.2.2.1) (h.2.2.2.1) (h.2.2.2.2.1) (h.2.2.2.2.2.1) (h.2.2.2.2.2.2.1) (h.2.2.2.2.2.2.2.1) (h.2.2.2.2.2.2.2.2.1) (h.2.2.2.2.2.2.2.2.2.1) (h.2.2.2.2.2.2.2.2.2.2)) (hp2_11 (h.1) (h.2.1) (h.2.2.1) (h.2.2.2.1) (h.2.2.2.2.1) (h.2.2.2.2.2.1) (h.2.2.2.2.2.2.1) (h.2.2.2.2.2.2.2.1) (h.2.2.2.2.2.2.2.2.1) (h.2.2.2.2.2.2.2.2.2.1) (h.2.2.2.2.2.2.2.2.2.2))
  have hR := jR.sight (x := wn3) hR hv9 (fun h => ⟨by have h1 := hp1_12 h; omega, by have h1 := hw0 h; omega⟩) (fun h => by have h1 := hw1 h; omega) rfl hp2_12
  have hKI : jK D ld (R 4) (R 5) H := by rw [hrr9 4 (by decide), hrr9 5 (by decide)]; exact hKI
  have eF13 := (hfr9 13 (by decide)).trans ey0
  have htr : ∀ j : Nat, (j : Int) < y0.toInt → ft j = R 12 j := by rw [hrr9 12 (by decide)]; exact htr
  have eF11 := (hfr9 11 (by decide)).trans ey5
  have hJ9 : lw_J D ld t a0 F R H := ⟨hT, ⟨_, _, _, _, _, _, _, _, _, _, hC, hR⟩, hKI, ⟨_, htp, by rw [eF13]; exact htr⟩, by rw [eF13]; exact hj13, by rw [eF11]; exact hj15⟩
  refine lv_pop hx hb dL_law_1101 rfl ?_
  refine lv_goto (tgt := 1375) hx hb dL_law_1102 (by decide) ?_
  refine W.widen (k := cells + 7) (n := slots + 1106) (by exact Nat.le_add_right _ _) (by exact Nat.le_add_right _ _) ?_
  exact kk t F G R S H locs ls ⟨ht0, hG, hge, hD, hM, ⟨hIF, hIG, hIR⟩, hsep, hwge⟩ hJ9 hS hl
set_option maxHeartbeats 8000000 in
set_option maxRecDepth 100000 in
theorem law_31 {p : Program} {l : Launch} {e : Env} {s : State} {m : MethodId} {below : List Frame} {meth : Method} {c : Code} {b L : Nat} {xs : Nat → Int32} (C0 : lw_At p s m meth c b L xs) (htl : ∀ w ∈ wsA, w.before #[Value.ref b] s = true) {D : va_G} {cy : Nat → ClassId} {ld ad : Nat → Nat} (hK : kk_K D cy ld s) (hZ0 : tk_Z ld (fun _ => (0, 0, 0)) s) {t : tk_T} {a0 am : Nat} {F : Nat → Int32} {G : Nat → Int64} {R : Nat → Nat → Int32} {S : Nat → Nat → Int64} {H : Heap} {locs : List Loc} (hI : lw_I D cy ld t ad a0 am s.heap.size F G R S H) (hJ : lw_J D ld t a0 F R H) (hS : va_S (fun q : Nat => s.heap.size ≤ q) s.heap H locs) (hS0 : s.heap.size ≤ H.size) (hL : L ≤ 3072) {v : Int32} {i : Int} (hv : v.toInt = i) (hi : 0 ≤ i) (hiL : i + 6 ≤ (L : Int)) {cells slots : Nat} (hc : cells + 7 ≤ 600000) (hs : slots + 1106 ≤ 7302250) (ls : Array Slot) (hl : lv_has ls 4 [(3, .int v), (2, .ref am), (1, .ref a0), (0, .ref b)]) (kk : ∀ (t : tk_T) (F : Nat → Int32) (G : Nat → Int64) (R : Nat → Nat → Int32) (S : Nat → Nat → Int64) (H : Heap) (locs : List Loc) (ls : Array Slot), lw_I D cy ld t ad a0 am s.heap.size F G R S H → lw_J D ld t a0 F R H → va_S (fun q : Nat => s.heap.size ≤ q) s.heap H locs → lv_has ls 4 [(3, .int v), (2, .ref am), (1, .ref a0), (0, .ref b)] → W p l e room_1 s m #[Value.ref b] below meth c H locs (cells + 7) (slots + 1106) (lw_Z below #[Value.ref b] s) (F0 m 1375 ls [])) : W p l e room_1 s m #[Value.ref b] below meth c H locs (cells) (slots) (lw_Z below #[Value.ref b] s) (F0 m 1105 ls []) := by
  obtain ⟨hx, hb, hr, hml, hown, hts, hX, hbl, hlocks, hgv⟩ := id C0
  have hown : s.vm.findClass RL = some m.cls := hown
  have hbA : ¬ (fun q : Nat => s.heap.size ≤ q) b := Nat.not_le.mpr hbl
  obtain ⟨ht0, hG, hge, hD, hM, ⟨hIF, hIG, hIR⟩, hsep, hwge⟩ := hI
  have hZ := lw_Z0 hZ0 hge
  have hAZ : ∀ q : Nat, q < s.heap.size → (fun q : Nat => s.heap.size ≤ q) q → (t q).1 ≠ 0 := fun q h1 h2 => absurd h2 (Nat.not_le.mpr h1)
  obtain ⟨hT, ⟨n0, n1, n2, n3, fh, fs, fk, q1, q2, q3, hC, hR⟩, hKI, ⟨ft, htp, htr⟩, hj13, hj15⟩ := hJ
  obtain ⟨⟨e30, e31, e32, e33⟩, ⟨⟨b0, b1⟩, ⟨b2, b3⟩, ⟨b4, b5⟩, b6, b7⟩, -⟩ := id hR
  obtain ⟨y0, ey0⟩ : ∃ z : Int32, F 13 = z := ⟨_, rfl⟩
  have hy0 : 0 ≤ y0.toInt ∧ y0.toInt ≤ 400 := hIF.at ey0
  rw [ey0] at hj13 htr
  obtain ⟨y5, ey5⟩ : ∃ z : Int32, F 11 = z := ⟨_, rfl⟩
  rw [ey5] at hj15
  have hy5 := tk_rng y5
  obtain ⟨ht_ld20, ht_ld70, ht_ld80, ht_ld90, ht_ld100, ht_ld110, ht_ld120⟩ := id hT.1
  obtain ⟨ht_ld24, ht_ld76, ht_ld86, ht_ld96, ht_ld106, ht_ld116, ht_ld126⟩ := id hT.2.1
  obtain ⟨ht_ld25, ht_ld77, ht_ld87, ht_ld97, ht_ld107, ht_ld117, ht_ld127⟩ := id hT.2.2.1
  have ht_ld26 := hT.2.2.2.1
  have ht_ld49 := hT.2.2.2.2
  refine lv_aload_n hx hb dL_law_1105 rfl (lv_at hl 2 rfl) ?_
  refine tk_ViA (As := []) (rest := []) (ci := 12) ⟨hx, hb, hml, hown, htl⟩ hK hG hZ hAZ hS (k_X12_forget_x l D cy ld t a0 n0 n1 n2 n3 fh fs fk q1 q2 q3 ht0 ht_ld20 ht_ld70 ht_ld80 ht_ld90 ht_ld100 ht_ld110 ht_ld120 (by omega) (by omega) (by omega) (by omega) (by omega) (by omega) (by omega) (by omega)) hC ⟨callB_of 0 htl (wl_inL mw_1498) rfl rfl rfl (htl _ mw_2) (htl _ mw_1495) hd_yX12_forget ⟨(Nat.le_of_ble_eq_true rfl), (Nat.le_of_ble_eq_true rfl)⟩, htl _ mw_1496, htl _ mw_1497⟩ ht0 (by decide) tk_no rfl (fun q h => hge q h.1) rfl hl.1 rfl (Nat.le_of_ble_eq_true rfl) dL_law_1106 ⟨by show cells + 0 ≤ 600000; omega, by show slots + 0 ≤ 7302250; omega⟩ (fun r1 H locs hpo1 hG hS hz9 hq9 => ?_)
  obtain ⟨hp1_0, hp1_1, hp1_2, ⟨wn3, hC, hw0⟩⟩ := hpo1
  have hKI := jK.call hT hKI hq9 (by decide) (by decide) (by decide)
  have htp := htp.call hq9 (tk_w.no ht_ld26 (by decide))
  have hj13 := hj13.call hq9 (tk_w.no ht0 (by decide))
  have hj15 := hj15.call hq9 (tk_w.no ht0 (by decide))
  have hM := hM.frame (H1 := H) (fun q hq => hq9 q (hM.lt hq) (fun h => hsep q h.1 hq))
  refine lv_pop hx hb dL_law_1109 rfl ?_
  refine lv_aload_n hx hb dL_law_1110 rfl (lv_at hl 1 rfl) ?_
  refine mz_ViA (As := []) (rest := []) ⟨hx, hb, hml, hown, htl⟩ hK hM hS (fun q h => hwge q h) (k_X13_forget_x l D cy ld ad am hD _ _ _ _ _ hIF hIG hIR e33) ⟨callB_of 0 htl (wl_inL mw_1503) rfl rfl rfl (htl _ mw_5) (htl _ mw_1500) hd_yX13_forget ⟨(Nat.le_of_ble_eq_true rfl), (Nat.le_of_ble_eq_true rfl)⟩, htl _ mw_1501, htl _ mw_1502⟩ rfl hl.1 rfl (Nat.le_of_ble_eq_true rfl) dL_law_1111 ⟨by show cells + 0 + 0 ≤ 600000; omega, by show slots + 0 + 0 ≤ 7302250; omega⟩ (fun r2 H locs F G R S hpo hM hS hz9 hq9 => ?_)
  have hall := fun (q : Nat) (hq : (t q).1 ≠ 0) => hq9 q (hG.lt hq) (hsep q hq)
  have hG := hG.frame (H1 := H) hall
  have hC := jC.all hT.1 hC hall
  have hKI := jK.all hT hKI hall
  have htp := htp.kept (hall _ (by rw [ht_ld26]; exact Nat.succ_ne_zero _))
  have hj13 := hj13.kept (hall _ (by rw [ht0]; exact Nat.succ_ne_zero _))
  have hj15 := hj15.kept (hall _ (by rw [ht0]; exact Nat.succ_ne_zero _))
  obtain ⟨hIF, hIG, hIR, hfr9, hrr9, hgr9, hp2_0, hp2_1⟩ := hpo
  have hv9 : r1.toInt = r2.toInt := jq2 (c := (-1) * n3.toInt) (hp1_0) (hp2_0)
  have hR := jR.forget (x := wn3) hR (by omega) hp2_1
  have hKI : jK D ld (R 4) (R 5) H := by rw [hrr9 4 (by decide), hrr9 5 (by decide)]; exact hKI
  have eF13 := (hfr9 13 (by decide)).trans ey0
  have htr : ∀ j : Nat, (j : Int) < y0.toInt → ft j = R 12 j := by rw [hrr9 12 (by decide)]; exact htr
  have eF11 := (hfr9 11 (by decide)).trans ey5
  have hJ9 : lw_J D ld t a0 F R H := ⟨hT, ⟨_, _, _, _, _, _, _, _, _, _, hC, hR⟩, hKI, ⟨_, htp, by rw [eF13]; exact htr⟩, by rw [eF13]; exact hj13, by rw [eF11]; exact hj15⟩
  refine lv_pop hx hb dL_law_1114 rfl ?_
  refine lv_goto (tgt := 1375) hx hb dL_law_1115 (by decide) ?_
  refine W.widen (k := cells + 7) (n := slots + 1106) (by exact Nat.le_add_right _ _) (by exact Nat.le_add_right _ _) ?_
  exact kk t F G R S H locs ls ⟨ht0, hG, hge, hD, hM, ⟨hIF, hIG, hIR⟩, hsep, hwge⟩ hJ9 hS hl
set_option maxHeartbeats 8000000 in
set_option maxRecDepth 100000 in
theorem law_32 {p : Program} {l : Launch} {e : Env} {s : State} {m : MethodId} {below : List Frame} {meth : Method} {c : Code} {b L : Nat} {xs : Nat → Int32} (C0 : lw_At p s m meth c b L xs) (htl : ∀ w ∈ wsA, w.before #[Value.ref b] s = true) {D : va_G} {cy : Nat → ClassId} {ld ad : Nat → Nat} (hK : kk_K D cy ld s) (hZ0 : tk_Z ld (fun _ => (0, 0, 0)) s) {t : tk_T} {a0 am : Nat} {F : Nat → Int32} {G : Nat → Int64} {R : Nat → Nat → Int32} {S : Nat → Nat → Int64} {H : Heap} {locs : List Loc} (hI : lw_I D cy ld t ad a0 am s.heap.size F G R S H) (hJ : lw_J D ld t a0 F R H) (hS : va_S (fun q : Nat => s.heap.size ≤ q) s.heap H locs) (hS0 : s.heap.size ≤ H.size) (hL : L ≤ 3072) {v : Int32} {i : Int} (hv : v.toInt = i) (hi : 0 ≤ i) (hiL : i + 6 ≤ (L : Int)) {cells slots : Nat} (hc : cells + 7 ≤ 600000) (hs : slots + 1106 ≤ 7302250) (ls : Array Slot) (hl : lv_has ls 4 [(3, .int v), (2, .ref am), (1, .ref a0), (0, .ref b)]) (kk : ∀ (t : tk_T) (F : Nat → Int32) (G : Nat → Int64) (R : Nat → Nat → Int32) (S : Nat → Nat → Int64) (H : Heap) (locs : List Loc) (ls : Array Slot), lw_I D cy ld t ad a0 am s.heap.size F G R S H → lw_J D ld t a0 F R H → va_S (fun q : Nat => s.heap.size ≤ q) s.heap H locs → lv_has ls 4 [(3, .int v), (2, .ref am), (1, .ref a0), (0, .ref b)] → W p l e room_1 s m #[Value.ref b] below meth c H locs (cells + 7) (slots + 1106) (lw_Z below #[Value.ref b] s) (F0 m 1375 ls [])) : W p l e room_1 s m #[Value.ref b] below meth c H locs (cells) (slots) (lw_Z below #[Value.ref b] s) (F0 m 1118 ls []) := by
  obtain ⟨hx, hb, hr, hml, hown, hts, hX, hbl, hlocks, hgv⟩ := id C0
  have hown : s.vm.findClass RL = some m.cls := hown
  have hbA : ¬ (fun q : Nat => s.heap.size ≤ q) b := Nat.not_le.mpr hbl
  obtain ⟨ht0, hG, hge, hD, hM, ⟨hIF, hIG, hIR⟩, hsep, hwge⟩ := hI
  have hZ := lw_Z0 hZ0 hge
  have hAZ : ∀ q : Nat, q < s.heap.size → (fun q : Nat => s.heap.size ≤ q) q → (t q).1 ≠ 0 := fun q h1 h2 => absurd h2 (Nat.not_le.mpr h1)
  obtain ⟨hT, ⟨n0, n1, n2, n3, fh, fs, fk, q1, q2, q3, hC, hR⟩, hKI, ⟨ft, htp, htr⟩, hj13, hj15⟩ := hJ
  obtain ⟨⟨e30, e31, e32, e33⟩, ⟨⟨b0, b1⟩, ⟨b2, b3⟩, ⟨b4, b5⟩, b6, b7⟩, -⟩ := id hR
  obtain ⟨y0, ey0⟩ : ∃ z : Int32, F 13 = z := ⟨_, rfl⟩
  have hy0 : 0 ≤ y0.toInt ∧ y0.toInt ≤ 400 := hIF.at ey0
  rw [ey0] at hj13 htr
  obtain ⟨y5, ey5⟩ : ∃ z : Int32, F 11 = z := ⟨_, rfl⟩
  rw [ey5] at hj15
  have hy5 := tk_rng y5
  obtain ⟨ht_ld20, ht_ld70, ht_ld80, ht_ld90, ht_ld100, ht_ld110, ht_ld120⟩ := id hT.1
  obtain ⟨ht_ld24, ht_ld76, ht_ld86, ht_ld96, ht_ld106, ht_ld116, ht_ld126⟩ := id hT.2.1
  obtain ⟨ht_ld25, ht_ld77, ht_ld87, ht_ld97, ht_ld107, ht_ld117, ht_ld127⟩ := id hT.2.2.1
  have ht_ld26 := hT.2.2.2.1
  have ht_ld49 := hT.2.2.2.2
  obtain ⟨x1, hx1⟩ : ∃ z, xs (v + 1 : Int32).toNatClampNeg = z := ⟨_, rfl⟩
  have hk1 : (1 : Int32).toInt = 1 := by decide
  obtain ⟨x2, hx2⟩ : ∃ z, xs (v + 2 : Int32).toNatClampNeg = z := ⟨_, rfl⟩
  have hk2 : (2 : Int32).toInt = 2 := by decide
  refine lv_aload_n hx hb dL_law_1118 rfl (lv_at hl 2 rfl) ?_
  refine lv_aload_n hx hb dL_law_1119 rfl (lv_at hl 3 rfl) ?_
  refine lv_iload_n hx hb dL_law_1120 rfl (lv_at hl 0 rfl) ?_
  refine lv_iconst (v := 1) hx hb dL_law_1121 (by decide) ?_
  refine lv_iadd hx hb dL_law_1122 ?_
  refine va_sld hx hb hX hbl hbA hS (lw_in hv hk1 (by omega) (by omega) (by omega) hL) dL_law_1123 ?_
  refine fx_ti (v := x1) hx1 ?_
  refine lv_aload_n hx hb dL_law_1124 rfl (lv_at hl 3 rfl) ?_
  refine lv_iload_n hx hb dL_law_1125 rfl (lv_at hl 0 rfl) ?_
  refine lv_iconst (v := 2) hx hb dL_law_1126 (by decide) ?_
  refine lv_iadd hx hb dL_law_1127 ?_
  refine va_sld hx hb hX hbl hbA hS (lw_in hv hk2 (by omega) (by omega) (by omega) hL) dL_law_1128 ?_
  refine fx_ti (v := x2) hx2 ?_
  refine tk_ViA (As := [.int x1, .int x2]) (rest := []) (ci := 12) ⟨hx, hb, hml, hown, htl⟩ hK hG hZ hAZ hS (k_X12_fits l D cy ld t a0 x1 x2 ht0) trivial ⟨callB_of 2 htl (wl_inL mw_1507) rfl rfl rfl (htl _ mw_2) (htl _ mw_1504) hd_yX12_fits ⟨(Nat.le_of_ble_eq_true rfl), (Nat.le_of_ble_eq_true rfl)⟩, htl _ mw_1505, htl _ mw_1506⟩ ht0 (by decide) tk_no rfl (fun q h => hge q h.1) rfl hl.1 rfl (Nat.le_of_ble_eq_true rfl) dL_law_1129 ⟨by show cells + 0 ≤ 600000; omega, by show slots + 0 ≤ 7302250; omega⟩ (fun r1 H locs hpo1 hG hS hz9 hq9 => ?_)
  obtain ⟨hp1_0, hp1_1⟩ := hpo1
  have hC := jC.call hT.1 hC hq9 (by decide)
  have hKI := jK.call hT hKI hq9 (by decide) (by decide) (by decide)
  have htp := htp.call hq9 (tk_w.no ht_ld26 (by decide))
  have hj13 := hj13.call hq9 (tk_w.no ht0 (by decide))
  have hj15 := hj15.call hq9 (tk_w.no ht0 (by decide))
  have hM := hM.frame (H1 := H) (fun q hq => hq9 q (hM.lt hq) (fun h => hsep q h.1 hq))
  refine lv_pop hx hb dL_law_1132 rfl ?_
  refine lv_aload_n hx hb dL_law_1133 rfl (lv_at hl 1 rfl) ?_
  refine lv_aload_n hx hb dL_law_1134 rfl (lv_at hl 3 rfl) ?_
  refine lv_iload_n hx hb dL_law_1135 rfl (lv_at hl 0 rfl) ?_
  refine lv_iconst (v := 1) hx hb dL_law_1136 (by decide) ?_
  refine lv_iadd hx hb dL_law_1137 ?_
  refine va_sld hx hb hX hbl hbA hS (lw_in hv hk1 (by omega) (by omega) (by omega) hL) dL_law_1138 ?_
  refine fx_ti (v := x1) hx1 ?_
  refine lv_aload_n hx hb dL_law_1139 rfl (lv_at hl 3 rfl) ?_
  refine lv_iload_n hx hb dL_law_1140 rfl (lv_at hl 0 rfl) ?_
  refine lv_iconst (v := 2) hx hb dL_law_1141 (by decide) ?_
  refine lv_iadd hx hb dL_law_1142 ?_
  refine va_sld hx hb hX hbl hbA hS (lw_in hv hk2 (by omega) (by omega) (by omega) hL) dL_law_1143 ?_
  refine fx_ti (v := x2) hx2 ?_
  refine mz_ViA (As := [.int x1, .int x2]) (rest := []) ⟨hx, hb, hml, hown, htl⟩ hK hM hS (fun q h => hwge q h) (k_X13_fits l D cy ld ad am hD _ _ _ _ x1 x2 hIF hIG hIR) ⟨callB_of 2 htl (wl_inL mw_1557) rfl rfl rfl (htl _ mw_5) (htl _ mw_1554) hd_yX13_fits ⟨(Nat.le_of_ble_eq_true rfl), (Nat.le_of_ble_eq_true rfl)⟩, htl _ mw_1555, htl _ mw_1556⟩ rfl hl.1 rfl (Nat.le_of_ble_eq_true rfl) dL_law_1144 ⟨by show cells + 0 + 0 ≤ 600000; omega, by show slots + 0 + 0 ≤ 7302250; omega⟩ (fun r2 H locs F G R S hpo hM hS hz9 hq9 => ?_)
  have hall := fun (q : Nat) (hq : (t q).1 ≠ 0) => hq9 q (hG.lt hq) (hsep q hq)
  have hG := hG.frame (H1 := H) hall
  have hC := jC.all hT.1 hC hall
  have hKI := jK.all hT hKI hall
  have htp := htp.kept (hall _ (by rw [ht_ld26]; exact Nat.succ_ne_zero _))
  have hj13 := hj13.kept (hall _ (by rw [ht0]; exact Nat.succ_ne_zero _))
  have hj15 := hj15.kept (hall _ (by rw [ht0]; exact Nat.succ_ne_zero _))
  obtain ⟨hIF, hIG, hIR, hfr9, hrr9, hgr9, hp2_0, hp2_1⟩ := hpo
  have hR := hR.rel (rK3.refl (hrr9 3 (by decide)))
  have hKI : jK D ld (R 4) (R 5) H := by rw [hrr9 4 (by decide), hrr9 5 (by decide)]; exact hKI
  have eF13 := (hfr9 13 (by decide)).trans ey0
  have htr : ∀ j : Nat, (j : Int) < y0.toInt → ft j = R 12 j := by rw [hrr9 12 (by decide)]; exact htr
  have eF11 := (hfr9 11 (by decide)).trans ey5
  have hJ9 : lw_J D ld t a0 F R H := ⟨hT, ⟨_, _, _, _, _, _, _, _, _, _, hC, hR⟩, hKI, ⟨_, htp, by rw [eF13]; exact htr⟩, by rw [eF13]; exact hj13, by rw [eF11]; exact hj15⟩
  refine lv_pop hx hb dL_law_1147 rfl ?_
  refine lv_goto (tgt := 1375) hx hb dL_law_1148 (by decide) ?_
  refine W.widen (k := cells + 7) (n := slots + 1106) (by exact Nat.le_add_right _ _) (by exact Nat.le_add_right _ _) ?_
  exact kk t F G R S H locs ls ⟨ht0, hG, hge, hD, hM, ⟨hIF, hIG, hIR⟩, hsep, hwge⟩ hJ9 hS hl
set_option maxHeartbeats 8000000 in
set_option maxRecDepth 100000 in
theorem law_33 {p : Program} {l : Launch} {e : Env} {s : State} {m : MethodId} {below : List Frame} {meth : Method} {c : Code} {b L : Nat} {xs : Nat → Int32} (C0 : lw_At p s m meth c b L xs) (htl : ∀ w ∈ wsA, w.before #[Value.ref b] s = true) {D : va_G} {cy : Nat → ClassId} {ld ad : Nat → Nat} (hK : kk_K D cy ld s) (hZ0 : tk_Z ld (fun _ => (0, 0, 0)) s) {t : tk_T} {a0 am : Nat} {F : Nat → Int32} {G : Nat → Int64} {R : Nat → Nat → Int32} {S : Nat → Nat → Int64} {H : Heap} {locs : List Loc} (hI : lw_I D cy ld t ad a0 am s.heap.size F G R S H) (hJ : lw_J D ld t a0 F R H) (hS : va_S (fun q : Nat => s.heap.size ≤ q) s.heap H locs) (hS0 : s.heap.size ≤ H.size) (hL : L ≤ 3072) {v : Int32} {i : Int} (hv : v.toInt = i) (hi : 0 ≤ i) (hiL : i + 6 ≤ (L : Int)) {cells slots : Nat} (hc : cells + 7 ≤ 600000) (hs : slots + 1106 ≤ 7302250) (ls : Array Slot) (hl : lv_has ls 4 [(3, .int v), (2, .ref am), (1, .ref a0), (0, .ref b)]) (kk : ∀ (t : tk_T) (F : Nat → Int32) (G : Nat → Int64) (R : Nat → Nat → Int32) (S : Nat → Nat → Int64) (H : Heap) (locs : List Loc) (ls : Array Slot), lw_I D cy ld t ad a0 am s.heap.size F G R S H → lw_J D ld t a0 F R H → va_S (fun q : Nat => s.heap.size ≤ q) s.heap H locs → lv_has ls 4 [(3, .int v), (2, .ref am), (1, .ref a0), (0, .ref b)] → W p l e room_1 s m #[Value.ref b] below meth c H locs (cells + 7) (slots + 1106) (lw_Z below #[Value.ref b] s) (F0 m 1375 ls [])) : W p l e room_1 s m #[Value.ref b] below meth c H locs (cells) (slots) (lw_Z below #[Value.ref b] s) (F0 m 1151 ls []) := by
  obtain ⟨hx, hb, hr, hml, hown, hts, hX, hbl, hlocks, hgv⟩ := id C0
  have hown : s.vm.findClass RL = some m.cls := hown
  have hbA : ¬ (fun q : Nat => s.heap.size ≤ q) b := Nat.not_le.mpr hbl
  obtain ⟨ht0, hG, hge, hD, hM, ⟨hIF, hIG, hIR⟩, hsep, hwge⟩ := hI
  have hZ := lw_Z0 hZ0 hge
  have hAZ : ∀ q : Nat, q < s.heap.size → (fun q : Nat => s.heap.size ≤ q) q → (t q).1 ≠ 0 := fun q h1 h2 => absurd h2 (Nat.not_le.mpr h1)
  obtain ⟨hT, ⟨n0, n1, n2, n3, fh, fs, fk, q1, q2, q3, hC, hR⟩, hKI, ⟨ft, htp, htr⟩, hj13, hj15⟩ := hJ
  obtain ⟨⟨e30, e31, e32, e33⟩, ⟨⟨b0, b1⟩, ⟨b2, b3⟩, ⟨b4, b5⟩, b6, b7⟩, -⟩ := id hR
  obtain ⟨y0, ey0⟩ : ∃ z : Int32, F 13 = z := ⟨_, rfl⟩
  have hy0 : 0 ≤ y0.toInt ∧ y0.toInt ≤ 400 := hIF.at ey0
  rw [ey0] at hj13 htr
  obtain ⟨y5, ey5⟩ : ∃ z : Int32, F 11 = z := ⟨_, rfl⟩
  rw [ey5] at hj15
  have hy5 := tk_rng y5
  obtain ⟨ht_ld20, ht_ld70, ht_ld80, ht_ld90, ht_ld100, ht_ld110, ht_ld120⟩ := id hT.1
  obtain ⟨ht_ld24, ht_ld76, ht_ld86, ht_ld96, ht_ld106, ht_ld116, ht_ld126⟩ := id hT.2.1
  obtain ⟨ht_ld25, ht_ld77, ht_ld87, ht_ld97, ht_ld107, ht_ld117, ht_ld127⟩ := id hT.2.2.1
  have ht_ld26 := hT.2.2.2.1
  have ht_ld49 := hT.2.2.2.2
  obtain ⟨x1, hx1⟩ : ∃ z, xs (v + 1 : Int32).toNatClampNeg = z := ⟨_, rfl⟩
  have hk1 : (1 : Int32).toInt = 1 := by decide
  obtain ⟨x2, hx2⟩ : ∃ z, xs (v + 2 : Int32).toNatClampNeg = z := ⟨_, rfl⟩
  have hk2 : (2 : Int32).toInt = 2 := by decide
  refine lv_aload_n hx hb dL_law_1151 rfl (lv_at hl 2 rfl) ?_
  refine lv_aload_n hx hb dL_law_1152 rfl (lv_at hl 3 rfl) ?_
  refine lv_iload_n hx hb dL_law_1153 rfl (lv_at hl 0 rfl) ?_
  refine lv_iconst (v := 1) hx hb dL_law_1154 (by decide) ?_
  refine lv_iadd hx hb dL_law_1155 ?_
  refine va_sld hx hb hX hbl hbA hS (lw_in hv hk1 (by omega) (by omega) (by omega) hL) dL_law_1156 ?_
  refine fx_ti (v := x1) hx1 ?_
  refine lv_aload_n hx hb dL_law_1157 rfl (lv_at hl 3 rfl) ?_
  refine lv_iload_n hx hb dL_law_1158 rfl (lv_at hl 0 rfl) ?_
  refine lv_iconst (v := 2) hx hb dL_law_1159 (by decide) ?_
  refine lv_iadd hx hb dL_law_1160 ?_
  refine va_sld hx hb hX hbl hbA hS (lw_in hv hk2 (by omega) (by omega) (by omega) hL) dL_law_1161 ?_
  refine fx_ti (v := x2) hx2 ?_
  refine tk_ViA (As := [.int x1, .int x2]) (rest := []) (ci := 12) ⟨hx, hb, hml, hown, htl⟩ hK hG hZ hAZ hS (k_X12_catching l D cy ld t a0 x1 x2 ht0) trivial ⟨callB_of 2 htl (wl_inL mw_1574) rfl rfl rfl (htl _ mw_2) (htl _ mw_1571) hd_yX12_catching ⟨(Nat.le_of_ble_eq_true rfl), (Nat.le_of_ble_eq_true rfl)⟩, htl _ mw_1572, htl _ mw_1573⟩ ht0 (by decide) tk_no rfl (fun q h => hge q h.1) rfl hl.1 rfl (Nat.le_of_ble_eq_true rfl) dL_law_1162 ⟨by show cells + 0 ≤ 600000; omega, by show slots + 0 ≤ 7302250; omega⟩ (fun r1 H locs hpo1 hG hS hz9 hq9 => ?_)
  have hC := jC.call hT.1 hC hq9 (by decide)
  have hKI := jK.call hT hKI hq9 (by decide) (by decide) (by decide)
  have htp := htp.call hq9 (tk_w.no ht_ld26 (by decide))
  have hj13 := hj13.call hq9 (tk_w.no ht0 (by decide))
  have hj15 := hj15.call hq9 (tk_w.no ht0 (by decide))
  have hM := hM.frame (H1 := H) (fun q hq => hq9 q (hM.lt hq) (fun h => hsep q h.1 hq))
  refine lv_pop hx hb dL_law_1165 rfl ?_
  refine lv_aload_n hx hb dL_law_1166 rfl (lv_at hl 1 rfl) ?_
  refine lv_aload_n hx hb dL_law_1167 rfl (lv_at hl 3 rfl) ?_
  refine lv_iload_n hx hb dL_law_1168 rfl (lv_at hl 0 rfl) ?_
  refine lv_iconst (v := 1) hx hb dL_law_1169 (by decide) ?_
  refine lv_iadd hx hb dL_law_1170 ?_
  refine va_sld hx hb hX hbl hbA hS (lw_in hv hk1 (by omega) (by omega) (by omega) hL) dL_law_1171 ?_
  refine fx_ti (v := x1) hx1 ?_
  refine lv_aload_n hx hb dL_law_1172 rfl (lv_at hl 3 rfl) ?_
  refine lv_iload_n hx hb dL_law_1173 rfl (lv_at hl 0 rfl) ?_
  refine lv_iconst (v := 2) hx hb dL_law_1174 (by decide) ?_
  refine lv_iadd hx hb dL_law_1175 ?_
  refine va_sld hx hb hX hbl hbA hS (lw_in hv hk2 (by omega) (by omega) (by omega) hL) dL_law_1176 ?_
  refine fx_ti (v := x2) hx2 ?_
  refine mz_ViA (As := [.int x1, .int x2]) (rest := []) ⟨hx, hb, hml, hown, htl⟩ hK hM hS (fun q h => hwge q h) (k_X13_catching l D cy ld ad am hD _ _ _ _ x1 x2 hIF hIG hIR) ⟨callB_of 2 htl (wl_inL mw_1594) rfl rfl rfl (htl _ mw_5) (htl _ mw_1591) hd_yX13_catching ⟨(Nat.le_of_ble_eq_true rfl), (Nat.le_of_ble_eq_true rfl)⟩, htl _ mw_1592, htl _ mw_1593⟩ rfl hl.1 rfl (Nat.le_of_ble_eq_true rfl) dL_law_1177 ⟨by show cells + 0 + 0 ≤ 600000; omega, by show slots + 0 + 0 ≤ 7302250; omega⟩ (fun r2 H locs F G R S hpo hM hS hz9 hq9 => ?_)
  have hall := fun (q : Nat) (hq : (t q).1 ≠ 0) => hq9 q (hG.lt hq) (hsep q hq)
  have hG := hG.frame (H1 := H) hall
  have hC := jC.all hT.1 hC hall
  have hKI := jK.all hT hKI hall
  have htp := htp.kept (hall _ (by rw [ht_ld26]; exact Nat.succ_ne_zero _))
  have hj13 := hj13.kept (hall _ (by rw [ht0]; exact Nat.succ_ne_zero _))
  have hj15 := hj15.kept (hall _ (by rw [ht0]; exact Nat.succ_ne_zero _))
  obtain ⟨hIF, hIG, hIR, hfr9, hrr9, hgr9⟩ := hpo
  have hR := hR.rel (rK3.refl (hrr9 3 (by decide)))
  have hKI : jK D ld (R 4) (R 5) H := by rw [hrr9 4 (by decide), hrr9 5 (by decide)]; exact hKI
  have eF13 := (hfr9 13 (by decide)).trans ey0
  have htr : ∀ j : Nat, (j : Int) < y0.toInt → ft j = R 12 j := by rw [hrr9 12 (by decide)]; exact htr
  have eF11 := (hfr9 11 (by decide)).trans ey5
  have hJ9 : lw_J D ld t a0 F R H := ⟨hT, ⟨_, _, _, _, _, _, _, _, _, _, hC, hR⟩, hKI, ⟨_, htp, by rw [eF13]; exact htr⟩, by rw [eF13]; exact hj13, by rw [eF11]; exact hj15⟩
  refine lv_pop hx hb dL_law_1180 rfl ?_
  refine lv_goto (tgt := 1375) hx hb dL_law_1181 (by decide) ?_
  refine W.widen (k := cells + 7) (n := slots + 1106) (by exact Nat.le_add_right _ _) (by exact Nat.le_add_right _ _) ?_
  exact kk t F G R S H locs ls ⟨ht0, hG, hge, hD, hM, ⟨hIF, hIG, hIR⟩, hsep, hwge⟩ hJ9 hS hl
set_option maxHeartbeats 8000000 in
set_option maxRecDepth 100000 in
theorem law_34 {p : Program} {l : Launch} {e : Env} {s : State} {m : MethodId} {below : List Frame} {meth : Method} {c : Code} {b L : Nat} {xs : Nat → Int32} (C0 : lw_At p s m meth c b L xs) (htl : ∀ w ∈ wsA, w.before #[Value.ref b] s = true) {D : va_G} {cy : Nat → ClassId} {ld ad : Nat → Nat} (hK : kk_K D cy ld s) (hZ0 : tk_Z ld (fun _ => (0, 0, 0)) s) {t : tk_T} {a0 am : Nat} {F : Nat → Int32} {G : Nat → Int64} {R : Nat → Nat → Int32} {S : Nat → Nat → Int64} {H : Heap} {locs : List Loc} (hI : lw_I D cy ld t ad a0 am s.heap.size F G R S H) (hJ : lw_J D ld t a0 F R H) (hS : va_S (fun q : Nat => s.heap.size ≤ q) s.heap H locs) (hS0 : s.heap.size ≤ H.size) (hL : L ≤ 3072) {v : Int32} {i : Int} (hv : v.toInt = i) (hi : 0 ≤ i) (hiL : i + 6 ≤ (L : Int)) {cells slots : Nat} (hc : cells + 7 ≤ 600000) (hs : slots + 1106 ≤ 7302250) (ls : Array Slot) (hl : lv_has ls 4 [(3, .int v), (2, .ref am), (1, .ref a0), (0, .ref b)]) (kk : ∀ (t : tk_T) (F : Nat → Int32) (G : Nat → Int64) (R : Nat → Nat → Int32) (S : Nat → Nat → Int64) (H : Heap) (locs : List Loc) (ls : Array Slot), lw_I D cy ld t ad a0 am s.heap.size F G R S H → lw_J D ld t a0 F R H → va_S (fun q : Nat => s.heap.size ≤ q) s.heap H locs → lv_has ls 4 [(3, .int v), (2, .ref am), (1, .ref a0), (0, .ref b)] → W p l e room_1 s m #[Value.ref b] below meth c H locs (cells + 7) (slots + 1106) (lw_Z below #[Value.ref b] s) (F0 m 1375 ls [])) : W p l e room_1 s m #[Value.ref b] below meth c H locs (cells) (slots) (lw_Z below #[Value.ref b] s) (F0 m 1184 ls []) := by
  obtain ⟨hx, hb, hr, hml, hown, hts, hX, hbl, hlocks, hgv⟩ := id C0
  have hown : s.vm.findClass RL = some m.cls := hown
  have hbA : ¬ (fun q : Nat => s.heap.size ≤ q) b := Nat.not_le.mpr hbl
  obtain ⟨ht0, hG, hge, hD, hM, ⟨hIF, hIG, hIR⟩, hsep, hwge⟩ := hI
  have hZ := lw_Z0 hZ0 hge
  have hAZ : ∀ q : Nat, q < s.heap.size → (fun q : Nat => s.heap.size ≤ q) q → (t q).1 ≠ 0 := fun q h1 h2 => absurd h2 (Nat.not_le.mpr h1)
  obtain ⟨hT, ⟨n0, n1, n2, n3, fh, fs, fk, q1, q2, q3, hC, hR⟩, hKI, ⟨ft, htp, htr⟩, hj13, hj15⟩ := hJ
  obtain ⟨⟨e30, e31, e32, e33⟩, ⟨⟨b0, b1⟩, ⟨b2, b3⟩, ⟨b4, b5⟩, b6, b7⟩, -⟩ := id hR
  obtain ⟨y0, ey0⟩ : ∃ z : Int32, F 13 = z := ⟨_, rfl⟩
  have hy0 : 0 ≤ y0.toInt ∧ y0.toInt ≤ 400 := hIF.at ey0
  rw [ey0] at hj13 htr
  obtain ⟨y5, ey5⟩ : ∃ z : Int32, F 11 = z := ⟨_, rfl⟩
  rw [ey5] at hj15
  have hy5 := tk_rng y5
  obtain ⟨ht_ld20, ht_ld70, ht_ld80, ht_ld90, ht_ld100, ht_ld110, ht_ld120⟩ := id hT.1
  obtain ⟨ht_ld24, ht_ld76, ht_ld86, ht_ld96, ht_ld106, ht_ld116, ht_ld126⟩ := id hT.2.1
  obtain ⟨ht_ld25, ht_ld77, ht_ld87, ht_ld97, ht_ld107, ht_ld117, ht_ld127⟩ := id hT.2.2.1
  have ht_ld26 := hT.2.2.2.1
  have ht_ld49 := hT.2.2.2.2
  obtain ⟨x1, hx1⟩ : ∃ z, xs (v + 1 : Int32).toNatClampNeg = z := ⟨_, rfl⟩
  have hk1 : (1 : Int32).toInt = 1 := by decide
  obtain ⟨x2, hx2⟩ : ∃ z, xs (v + 2 : Int32).toNatClampNeg = z := ⟨_, rfl⟩
  have hk2 : (2 : Int32).toInt = 2 := by decide
  obtain ⟨x3, hx3⟩ : ∃ z, xs (v + 3 : Int32).toNatClampNeg = z := ⟨_, rfl⟩
  have hk3 : (3 : Int32).toInt = 3 := by decide
  refine lv_aload_n hx hb dL_law_1184 rfl (lv_at hl 2 rfl) ?_
  refine lv_aload_n hx hb dL_law_1185 rfl (lv_at hl 3 rfl) ?_
  refine lv_iload_n hx hb dL_law_1186 rfl (lv_at hl 0 rfl) ?_
  refine lv_iconst (v := 1) hx hb dL_law_1187 (by decide) ?_
  refine lv_iadd hx hb dL_law_1188 ?_
  refine va_sld hx hb hX hbl hbA hS (lw_in hv hk1 (by omega) (by omega) (by omega) hL) dL_law_1189 ?_
  refine fx_ti (v := x1) hx1 ?_
  refine lv_aload_n hx hb dL_law_1190 rfl (lv_at hl 3 rfl) ?_
  refine lv_iload_n hx hb dL_law_1191 rfl (lv_at hl 0 rfl) ?_
  refine lv_iconst (v := 2) hx hb dL_law_1192 (by decide) ?_
  refine lv_iadd hx hb dL_law_1193 ?_
  refine va_sld hx hb hX hbl hbA hS (lw_in hv hk2 (by omega) (by omega) (by omega) hL) dL_law_1194 ?_
  refine fx_ti (v := x2) hx2 ?_
  refine lv_aload_n hx hb dL_law_1195 rfl (lv_at hl 3 rfl) ?_
  refine lv_iload_n hx hb dL_law_1196 rfl (lv_at hl 0 rfl) ?_
  refine lv_iconst (v := 3) hx hb dL_law_1197 (by decide) ?_
  refine lv_iadd hx hb dL_law_1198 ?_
  refine va_sld hx hb hX hbl hbA hS (lw_in hv hk3 (by omega) (by omega) (by omega) hL) dL_law_1199 ?_
  refine fx_ti (v := x3) hx3 ?_
  refine tk_ViA (As := [.int x1, .int x2, .int x3]) (rest := []) (ci := 12) ⟨hx, hb, hml, hown, htl⟩ hK hG hZ hAZ hS (k_X12_keep l D cy ld t a0 x1 x2 x3 ht0) trivial ⟨callB_of 3 htl (wl_inL mw_1606) rfl rfl rfl (htl _ mw_2) (htl _ mw_1603) hd_yX12_keep ⟨(Nat.le_of_ble_eq_true rfl), (Nat.le_of_ble_eq_true rfl)⟩, htl _ mw_1604, htl _ mw_1605⟩ ht0 (by decide) tk_no rfl (fun q h => hge q h.1) rfl hl.1 rfl (Nat.le_of_ble_eq_true rfl) dL_law_1200 ⟨by show cells + 0 ≤ 600000; omega, by show slots + 0 ≤ 7302250; omega⟩ (fun r1 H locs hpo1 hG hS hz9 hq9 => ?_)
  obtain ⟨hp1_0, hp1_1⟩ := hpo1
  have hC := jC.call hT.1 hC hq9 (by decide)
  have hKI := jK.call hT hKI hq9 (by decide) (by decide) (by decide)
  have htp := htp.call hq9 (tk_w.no ht_ld26 (by decide))
  have hj13 := hj13.call hq9 (tk_w.no ht0 (by decide))
  have hj15 := hj15.call hq9 (tk_w.no ht0 (by decide))
  have hM := hM.frame (H1 := H) (fun q hq => hq9 q (hM.lt hq) (fun h => hsep q h.1 hq))
  refine lv_pop hx hb dL_law_1203 rfl ?_
  refine lv_aload_n hx hb dL_law_1204 rfl (lv_at hl 1 rfl) ?_
  refine lv_aload_n hx hb dL_law_1205 rfl (lv_at hl 3 rfl) ?_
  refine lv_iload_n hx hb dL_law_1206 rfl (lv_at hl 0 rfl) ?_
  refine lv_iconst (v := 1) hx hb dL_law_1207 (by decide) ?_
  refine lv_iadd hx hb dL_law_1208 ?_
  refine va_sld hx hb hX hbl hbA hS (lw_in hv hk1 (by omega) (by omega) (by omega) hL) dL_law_1209 ?_
  refine fx_ti (v := x1) hx1 ?_
  refine lv_aload_n hx hb dL_law_1210 rfl (lv_at hl 3 rfl) ?_
  refine lv_iload_n hx hb dL_law_1211 rfl (lv_at hl 0 rfl) ?_
  refine lv_iconst (v := 2) hx hb dL_law_1212 (by decide) ?_
  refine lv_iadd hx hb dL_law_1213 ?_
  refine va_sld hx hb hX hbl hbA hS (lw_in hv hk2 (by omega) (by omega) (by omega) hL) dL_law_1214 ?_
  refine fx_ti (v := x2) hx2 ?_
  refine lv_aload_n hx hb dL_law_1215 rfl (lv_at hl 3 rfl) ?_
  refine lv_iload_n hx hb dL_law_1216 rfl (lv_at hl 0 rfl) ?_
  refine lv_iconst (v := 3) hx hb dL_law_1217 (by decide) ?_
  refine lv_iadd hx hb dL_law_1218 ?_
  refine va_sld hx hb hX hbl hbA hS (lw_in hv hk3 (by omega) (by omega) (by omega) hL) dL_law_1219 ?_
  refine fx_ti (v := x3) hx3 ?_
  refine mz_ViA (As := [.int x1, .int x2, .int x3]) (rest := []) ⟨hx, hb, hml, hown, htl⟩ hK hM hS (fun q h => hwge q h) (k_X13_keep l D cy ld ad am hD _ _ _ _ x1 x2 x3 hIF hIG hIR) ⟨callB_of 3 htl (wl_inL mw_1623) rfl rfl rfl (htl _ mw_5) (htl _ mw_1620) hd_yX13_keep ⟨(Nat.le_of_ble_eq_true rfl), (Nat.le_of_ble_eq_true rfl)⟩, htl _ mw_1621, htl _ mw_1622⟩ rfl hl.1 rfl (Nat.le_of_ble_eq_true rfl) dL_law_1220 ⟨by show cells + 0 + 0 ≤ 600000; omega, by show slots + 0 + 0 ≤ 7302250; omega⟩ (fun r2 H locs F G R S hpo hM hS hz9 hq9 => ?_)
  have hall := fun (q : Nat) (hq : (t q).1 ≠ 0) => hq9 q (hG.lt hq) (hsep q hq)
  have hG := hG.frame (H1 := H) hall
  have hC := jC.all hT.1 hC hall
  have hKI := jK.all hT hKI hall
  have htp := htp.kept (hall _ (by rw [ht_ld26]; exact Nat.succ_ne_zero _))
  have hj13 := hj13.kept (hall _ (by rw [ht0]; exact Nat.succ_ne_zero _))
  have hj15 := hj15.kept (hall _ (by rw [ht0]; exact Nat.succ_ne_zero _))
  obtain ⟨hIF, hIG, hIR, hfr9, hrr9, hgr9, hp2_0, hp2_1⟩ := hpo
  have hR := hR.rel (rK3.refl (hrr9 3 (by decide)))
  have hKI : jK D ld (R 4) (R 5) H := by rw [hrr9 4 (by decide), hrr9 5 (by decide)]; exact hKI
  have eF13 := (hfr9 13 (by decide)).trans ey0
  have htr : ∀ j : Nat, (j : Int) < y0.toInt → ft j = R 12 j := by rw [hrr9 12 (by decide)]; exact htr
  have eF11 := (hfr9 11 (by decide)).trans ey5
  have hJ9 : lw_J D ld t a0 F R H := ⟨hT, ⟨_, _, _, _, _, _, _, _, _, _, hC, hR⟩, hKI, ⟨_, htp, by rw [eF13]; exact htr⟩, by rw [eF13]; exact hj13, by rw [eF11]; exact hj15⟩
  refine lv_pop hx hb dL_law_1223 rfl ?_
  refine lv_goto (tgt := 1375) hx hb dL_law_1224 (by decide) ?_
  refine W.widen (k := cells + 7) (n := slots + 1106) (by exact Nat.le_add_right _ _) (by exact Nat.le_add_right _ _) ?_
  exact kk t F G R S H locs ls ⟨ht0, hG, hge, hD, hM, ⟨hIF, hIG, hIR⟩, hsep, hwge⟩ hJ9 hS hl
set_option maxHeartbeats 8000000 in
set_option maxRecDepth 100000 in
theorem law_35 {p : Program} {l : Launch} {e : Env} {s : State} {m : MethodId} {below : List Frame} {meth : Method} {c : Code} {b L : Nat} {xs : Nat → Int32} (C0 : lw_At p s m meth c b L xs) (htl : ∀ w ∈ wsA, w.before #[Value.ref b] s = true) {D : va_G} {cy : Nat → ClassId} {ld ad : Nat → Nat} (hK : kk_K D cy ld s) (hZ0 : tk_Z ld (fun _ => (0, 0, 0)) s) {t : tk_T} {a0 am : Nat} {F : Nat → Int32} {G : Nat → Int64} {R : Nat → Nat → Int32} {S : Nat → Nat → Int64} {H : Heap} {locs : List Loc} (hI : lw_I D cy ld t ad a0 am s.heap.size F G R S H) (hJ : lw_J D ld t a0 F R H) (hS : va_S (fun q : Nat => s.heap.size ≤ q) s.heap H locs) (hS0 : s.heap.size ≤ H.size) (hL : L ≤ 3072) {v : Int32} {i : Int} (hv : v.toInt = i) (hi : 0 ≤ i) (hiL : i + 6 ≤ (L : Int)) {cells slots : Nat} (hc : cells + 7 ≤ 600000) (hs : slots + 1106 ≤ 7302250) (ls : Array Slot) (hl : lv_has ls 4 [(3, .int v), (2, .ref am), (1, .ref a0), (0, .ref b)]) (kk : ∀ (t : tk_T) (F : Nat → Int32) (G : Nat → Int64) (R : Nat → Nat → Int32) (S : Nat → Nat → Int64) (H : Heap) (locs : List Loc) (ls : Array Slot), lw_I D cy ld t ad a0 am s.heap.size F G R S H → lw_J D ld t a0 F R H → va_S (fun q : Nat => s.heap.size ≤ q) s.heap H locs → lv_has ls 4 [(3, .int v), (2, .ref am), (1, .ref a0), (0, .ref b)] → W p l e room_1 s m #[Value.ref b] below meth c H locs (cells + 7) (slots + 1106) (lw_Z below #[Value.ref b] s) (F0 m 1375 ls [])) : W p l e room_1 s m #[Value.ref b] below meth c H locs (cells) (slots) (lw_Z below #[Value.ref b] s) (F0 m 1227 ls []) := by
  obtain ⟨hx, hb, hr, hml, hown, hts, hX, hbl, hlocks, hgv⟩ := id C0
  have hown : s.vm.findClass RL = some m.cls := hown
  have hbA : ¬ (fun q : Nat => s.heap.size ≤ q) b := Nat.not_le.mpr hbl
  obtain ⟨ht0, hG, hge, hD, hM, ⟨hIF, hIG, hIR⟩, hsep, hwge⟩ := hI
  have hZ := lw_Z0 hZ0 hge
  have hAZ : ∀ q : Nat, q < s.heap.size → (fun q : Nat => s.heap.size ≤ q) q → (t q).1 ≠ 0 := fun q h1 h2 => absurd h2 (Nat.not_le.mpr h1)
  obtain ⟨hT, ⟨n0, n1, n2, n3, fh, fs, fk, q1, q2, q3, hC, hR⟩, hKI, ⟨ft, htp, htr⟩, hj13, hj15⟩ := hJ
  obtain ⟨⟨e30, e31, e32, e33⟩, ⟨⟨b0, b1⟩, ⟨b2, b3⟩, ⟨b4, b5⟩, b6, b7⟩, -⟩ := id hR
  obtain ⟨y0, ey0⟩ : ∃ z : Int32, F 13 = z := ⟨_, rfl⟩
  have hy0 : 0 ≤ y0.toInt ∧ y0.toInt ≤ 400 := hIF.at ey0
  rw [ey0] at hj13 htr
  obtain ⟨y5, ey5⟩ : ∃ z : Int32, F 11 = z := ⟨_, rfl⟩
  rw [ey5] at hj15
  have hy5 := tk_rng y5
  obtain ⟨ht_ld20, ht_ld70, ht_ld80, ht_ld90, ht_ld100, ht_ld110, ht_ld120⟩ := id hT.1
  obtain ⟨ht_ld24, ht_ld76, ht_ld86, ht_ld96, ht_ld106, ht_ld116, ht_ld126⟩ := id hT.2.1
  obtain ⟨ht_ld25, ht_ld77, ht_ld87, ht_ld97, ht_ld107, ht_ld117, ht_ld127⟩ := id hT.2.2.1
  have ht_ld26 := hT.2.2.2.1
  have ht_ld49 := hT.2.2.2.2
  obtain ⟨x1, hx1⟩ : ∃ z, xs (v + 1 : Int32).toNatClampNeg = z := ⟨_, rfl⟩
  have hk1 : (1 : Int32).toInt = 1 := by decide
  obtain ⟨x2, hx2⟩ : ∃ z, xs (v + 2 : Int32).toNatClampNeg = z := ⟨_, rfl⟩
  have hk2 : (2 : Int32).toInt = 2 := by decide
  refine lv_aload_n hx hb dL_law_1227 rfl (lv_at hl 2 rfl) ?_
  refine lv_aload_n hx hb dL_law_1228 rfl (lv_at hl 3 rfl) ?_
  refine lv_iload_n hx hb dL_law_1229 rfl (lv_at hl 0 rfl) ?_
  refine lv_iconst (v := 1) hx hb dL_law_1230 (by decide) ?_
  refine lv_iadd hx hb dL_law_1231 ?_
  refine va_sld hx hb hX hbl hbA hS (lw_in hv hk1 (by omega) (by omega) (by omega) hL) dL_law_1232 ?_
  refine fx_ti (v := x1) hx1 ?_
  refine lv_aload_n hx hb dL_law_1233 rfl (lv_at hl 3 rfl) ?_
  refine lv_iload_n hx hb dL_law_1234 rfl (lv_at hl 0 rfl) ?_
  refine lv_iconst (v := 2) hx hb dL_law_1235 (by decide) ?_
  refine lv_iadd hx hb dL_law_1236 ?_
  refine va_sld hx hb hX hbl hbA hS (lw_in hv hk2 (by omega) (by omega) (by omega) hL) dL_law_1237 ?_
  refine fx_ti (v := x2) hx2 ?_
  refine tk_ViA (As := [.int x1, .int x2]) (rest := []) (ci := 12) ⟨hx, hb, hml, hown, htl⟩ hK hG hZ hAZ hS (k_X12_decade_x l D cy ld t a0 x1 x2 y0 y5 ht0 (by omega) (by omega) (by omega) (by omega)) ⟨hj13, hj15⟩ ⟨callB_of 2 htl (wl_inL mw_1630) rfl rfl rfl (htl _ mw_2) (htl _ mw_1627) hd_yX12_decade ⟨(Nat.le_of_ble_eq_true rfl), (Nat.le_of_ble_eq_true rfl)⟩, htl _ mw_1628, htl _ mw_1629⟩ ht0 (by decide) tk_no rfl (fun q h => hge q h.1) rfl hl.1 rfl (Nat.le_of_ble_eq_true rfl) dL_law_1238 ⟨by show cells + 0 ≤ 600000; omega, by show slots + 0 ≤ 7302250; omega⟩ (fun r1 H locs hpo1 hG hS hz9 hq9 => ?_)
  obtain ⟨hp1_0, hp1_1, hj13, hj15⟩ := hpo1
  have hC := jC.call hT.1 hC hq9 (by decide)
  have hKI := jK.call hT hKI hq9 (by decide) (by decide) (by decide)
  have htp := htp.call hq9 (tk_w.no ht_ld26 (by decide))
  have hM := hM.frame (H1 := H) (fun q hq => hq9 q (hM.lt hq) (fun h => hsep q h.1 hq))
  refine lv_pop hx hb dL_law_1241 rfl ?_
  refine lv_aload_n hx hb dL_law_1242 rfl (lv_at hl 1 rfl) ?_
  refine lv_aload_n hx hb dL_law_1243 rfl (lv_at hl 3 rfl) ?_
  refine lv_iload_n hx hb dL_law_1244 rfl (lv_at hl 0 rfl) ?_
  refine lv_iconst (v := 1) hx hb dL_law_1245 (by decide) ?_
  refine lv_iadd hx hb dL_law_1246 ?_
  refine va_sld hx hb hX hbl hbA hS (lw_in hv hk1 (by omega) (by omega) (by omega) hL) dL_law_1247 ?_
  refine fx_ti (v := x1) hx1 ?_
  refine lv_aload_n hx hb dL_law_1248 rfl (lv_at hl 3 rfl) ?_
  refine lv_iload_n hx hb dL_law_1249 rfl (lv_at hl 0 rfl) ?_
  refine lv_iconst (v := 2) hx hb dL_law_1250 (by decide) ?_
  refine lv_iadd hx hb dL_law_1251 ?_
  refine va_sld hx hb hX hbl hbA hS (lw_in hv hk2 (by omega) (by omega) (by omega) hL) dL_law_1252 ?_
  refine fx_ti (v := x2) hx2 ?_
  refine mz_ViA (As := [.int x1, .int x2]) (rest := []) ⟨hx, hb, hml, hown, htl⟩ hK hM hS (fun q h => hwge q h) (k_X13_decade l D cy ld ad am hD _ _ _ _ x1 x2 _ hIF hIG hIR e30) ⟨callB_of 2 htl (wl_inL mw_1683) rfl rfl rfl (htl _ mw_5) (htl _ mw_1680) hd_yX13_decade ⟨(Nat.le_of_ble_eq_true rfl), (Nat.le_of_ble_eq_true rfl)⟩, htl _ mw_1681, htl _ mw_1682⟩ rfl hl.1 rfl (Nat.le_of_ble_eq_true rfl) dL_law_1253 ⟨by show cells + 0 + 0 ≤ 600000; omega, by show slots + 0 + 0 ≤ 7302250; omega⟩ (fun r2 H locs F G R S hpo hM hS hz9 hq9 => ?_)
  have hall := fun (q : Nat) (hq : (t q).1 ≠ 0) => hq9 q (hG.lt hq) (hsep q hq)
  have hG := hG.frame (H1 := H) hall
  have hC := jC.all hT.1 hC hall
  have hKI := jK.all hT hKI hall
  have htp := htp.kept (hall _ (by rw [ht_ld26]; exact Nat.succ_ne_zero _))
  have hj13 := hj13.kept (hall _ (by rw [ht0]; exact Nat.succ_ne_zero _))
  have hj15 := hj15.kept (hall _ (by rw [ht0]; exact Nat.succ_ne_zero _))
  obtain ⟨hIF, hIG, hIR, hfr9, hrr9, hgr9, hrel9, hp2_0, hp2_1⟩ := hpo
  have hR := hR.rel hrel9.k3
  have hKI : jK D ld (R 4) (R 5) H := by rw [hrr9 4 (by decide), hrr9 5 (by decide)]; exact hKI
  have eF13 := (hfr9 13 (by decide)).trans ey0
  have htr : ∀ j : Nat, (j : Int) < y0.toInt → ft j = R 12 j := by rw [hrr9 12 (by decide)]; exact htr
  have eF11 := (hfr9 11 (by decide)).trans ey5
  have hJ9 : lw_J D ld t a0 F R H := ⟨hT, ⟨_, _, _, _, _, _, _, _, _, _, hC, hR⟩, hKI, ⟨_, htp, by rw [eF13]; exact htr⟩, by rw [eF13]; exact hj13, by rw [eF11]; exact hj15⟩
  refine lv_pop hx hb dL_law_1256 rfl ?_
  refine lv_goto (tgt := 1375) hx hb dL_law_1257 (by decide) ?_
  refine W.widen (k := cells + 7) (n := slots + 1106) (by exact Nat.le_add_right _ _) (by exact Nat.le_add_right _ _) ?_
  exact kk t F G R S H locs ls ⟨ht0, hG, hge, hD, hM, ⟨hIF, hIG, hIR⟩, hsep, hwge⟩ hJ9 hS hl
set_option maxHeartbeats 8000000 in
set_option maxRecDepth 100000 in
theorem law_36 {p : Program} {l : Launch} {e : Env} {s : State} {m : MethodId} {below : List Frame} {meth : Method} {c : Code} {b L : Nat} {xs : Nat → Int32} (C0 : lw_At p s m meth c b L xs) (htl : ∀ w ∈ wsA, w.before #[Value.ref b] s = true) {D : va_G} {cy : Nat → ClassId} {ld ad : Nat → Nat} (hK : kk_K D cy ld s) (hZ0 : tk_Z ld (fun _ => (0, 0, 0)) s) {t : tk_T} {a0 am : Nat} {F : Nat → Int32} {G : Nat → Int64} {R : Nat → Nat → Int32} {S : Nat → Nat → Int64} {H : Heap} {locs : List Loc} (hI : lw_I D cy ld t ad a0 am s.heap.size F G R S H) (hJ : lw_J D ld t a0 F R H) (hS : va_S (fun q : Nat => s.heap.size ≤ q) s.heap H locs) (hS0 : s.heap.size ≤ H.size) (hL : L ≤ 3072) {v : Int32} {i : Int} (hv : v.toInt = i) (hi : 0 ≤ i) (hiL : i + 6 ≤ (L : Int)) {cells slots : Nat} (hc : cells + 7 ≤ 600000) (hs : slots + 1106 ≤ 7302250) (ls : Array Slot) (hl : lv_has ls 4 [(3, .int v), (2, .ref am), (1, .ref a0), (0, .ref b)]) (kk : ∀ (t : tk_T) (F : Nat → Int32) (G : Nat → Int64) (R : Nat → Nat → Int32) (S : Nat → Nat → Int64) (H : Heap) (locs : List Loc) (ls : Array Slot), lw_I D cy ld t ad a0 am s.heap.size F G R S H → lw_J D ld t a0 F R H → va_S (fun q : Nat => s.heap.size ≤ q) s.heap H locs → lv_has ls 4 [(3, .int v), (2, .ref am), (1, .ref a0), (0, .ref b)] → W p l e room_1 s m #[Value.ref b] below meth c H locs (cells + 7) (slots + 1106) (lw_Z below #[Value.ref b] s) (F0 m 1375 ls [])) : W p l e room_1 s m #[Value.ref b] below meth c H locs (cells) (slots) (lw_Z below #[Value.ref b] s) (F0 m 1260 ls []) := by
  obtain ⟨hx, hb, hr, hml, hown, hts, hX, hbl, hlocks, hgv⟩ := id C0
  have hown : s.vm.findClass RL = some m.cls := hown
  have hbA : ¬ (fun q : Nat => s.heap.size ≤ q) b := Nat.not_le.mpr hbl
  obtain ⟨ht0, hG, hge, hD, hM, ⟨hIF, hIG, hIR⟩, hsep, hwge⟩ := hI
  have hZ := lw_Z0 hZ0 hge
  have hAZ : ∀ q : Nat, q < s.heap.size → (fun q : Nat => s.heap.size ≤ q) q → (t q).1 ≠ 0 := fun q h1 h2 => absurd h2 (Nat.not_le.mpr h1)
  obtain ⟨hT, ⟨n0, n1, n2, n3, fh, fs, fk, q1, q2, q3, hC, hR⟩, hKI, ⟨ft, htp, htr⟩, hj13, hj15⟩ := hJ
  obtain ⟨⟨e30, e31, e32, e33⟩, ⟨⟨b0, b1⟩, ⟨b2, b3⟩, ⟨b4, b5⟩, b6, b7⟩, -⟩ := id hR
  obtain ⟨y0, ey0⟩ : ∃ z : Int32, F 13 = z := ⟨_, rfl⟩
  have hy0 : 0 ≤ y0.toInt ∧ y0.toInt ≤ 400 := hIF.at ey0
  rw [ey0] at hj13 htr
  obtain ⟨y5, ey5⟩ : ∃ z : Int32, F 11 = z := ⟨_, rfl⟩
  rw [ey5] at hj15
  have hy5 := tk_rng y5
  obtain ⟨ht_ld20, ht_ld70, ht_ld80, ht_ld90, ht_ld100, ht_ld110, ht_ld120⟩ := id hT.1
  obtain ⟨ht_ld24, ht_ld76, ht_ld86, ht_ld96, ht_ld106, ht_ld116, ht_ld126⟩ := id hT.2.1
  obtain ⟨ht_ld25, ht_ld77, ht_ld87, ht_ld97, ht_ld107, ht_ld117, ht_ld127⟩ := id hT.2.2.1
  have ht_ld26 := hT.2.2.2.1
  have ht_ld49 := hT.2.2.2.2
  obtain ⟨x1, hx1⟩ : ∃ z, xs (v + 1 : Int32).toNatClampNeg = z := ⟨_, rfl⟩
  have hk1 : (1 : Int32).toInt = 1 := by decide
  obtain ⟨x2, hx2⟩ : ∃ z, xs (v + 2 : Int32).toNatClampNeg = z := ⟨_, rfl⟩
  have hk2 : (2 : Int32).toInt = 2 := by decide
  refine lv_aload_n hx hb dL_law_1260 rfl (lv_at hl 2 rfl) ?_
  refine lv_aload_n hx hb dL_law_1261 rfl (lv_at hl 3 rfl) ?_
  refine lv_iload_n hx hb dL_law_1262 rfl (lv_at hl 0 rfl) ?_
  refine lv_iconst (v := 1) hx hb dL_law_1263 (by decide) ?_
  refine lv_iadd hx hb dL_law_1264 ?_
  refine va_sld hx hb hX hbl hbA hS (lw_in hv hk1 (by omega) (by omega) (by omega) hL) dL_law_1265 ?_
  refine fx_ti (v := x1) hx1 ?_
  refine lv_aload_n hx hb dL_law_1266 rfl (lv_at hl 3 rfl) ?_
  refine lv_iload_n hx hb dL_law_1267 rfl (lv_at hl 0 rfl) ?_
  refine lv_iconst (v := 2) hx hb dL_law_1268 (by decide) ?_
  refine lv_iadd hx hb dL_law_1269 ?_
  refine va_sld hx hb hX hbl hbA hS (lw_in hv hk2 (by omega) (by omega) (by omega) hL) dL_law_1270 ?_
  refine fx_ti (v := x2) hx2 ?_
  refine tk_ViA (As := [.int x1, .int x2]) (rest := []) (ci := 12) ⟨hx, hb, hml, hown, htl⟩ hK hG hZ hAZ hS (k_X12_drawn l D cy ld t a0 x1 x2 ht0) trivial ⟨callB_of 2 htl (wl_inL mw_1696) rfl rfl rfl (htl _ mw_2) (htl _ mw_1693) hd_yX12_drawn ⟨(Nat.le_of_ble_eq_true rfl), (Nat.le_of_ble_eq_true rfl)⟩, htl _ mw_1694, htl _ mw_1695⟩ ht0 (by decide) tk_no rfl (fun q h => hge q h.1) rfl hl.1 rfl (Nat.le_of_ble_eq_true rfl) dL_law_1271 ⟨by show cells + 0 ≤ 600000; omega, by show slots + 0 ≤ 7302250; omega⟩ (fun r1 H locs hpo1 hG hS hz9 hq9 => ?_)
  have hC := jC.call hT.1 hC hq9 (by decide)
  have hKI := jK.call hT hKI hq9 (by decide) (by decide) (by decide)
  have htp := htp.call hq9 (tk_w.no ht_ld26 (by decide))
  have hj13 := hj13.call hq9 (tk_w.no ht0 (by decide))
  have hj15 := hj15.call hq9 (tk_w.no ht0 (by decide))
  have hM := hM.frame (H1 := H) (fun q hq => hq9 q (hM.lt hq) (fun h => hsep q h.1 hq))
  refine lv_pop hx hb dL_law_1274 rfl ?_
  refine lv_aload_n hx hb dL_law_1275 rfl (lv_at hl 1 rfl) ?_
  refine lv_aload_n hx hb dL_law_1276 rfl (lv_at hl 3 rfl) ?_
  refine lv_iload_n hx hb dL_law_1277 rfl (lv_at hl 0 rfl) ?_
  refine lv_iconst (v := 1) hx hb dL_law_1278 (by decide) ?_
  refine lv_iadd hx hb dL_law_1279 ?_
  refine va_sld hx hb hX hbl hbA hS (lw_in hv hk1 (by omega) (by omega) (by omega) hL) dL_law_1280 ?_
  refine fx_ti (v := x1) hx1 ?_
  refine lv_aload_n hx hb dL_law_1281 rfl (lv_at hl 3 rfl) ?_
  refine lv_iload_n hx hb dL_law_1282 rfl (lv_at hl 0 rfl) ?_
  refine lv_iconst (v := 2) hx hb dL_law_1283 (by decide) ?_
  refine lv_iadd hx hb dL_law_1284 ?_
  refine va_sld hx hb hX hbl hbA hS (lw_in hv hk2 (by omega) (by omega) (by omega) hL) dL_law_1285 ?_
  refine fx_ti (v := x2) hx2 ?_
  refine mz_ViA (As := [.int x1, .int x2]) (rest := []) ⟨hx, hb, hml, hown, htl⟩ hK hM hS (fun q h => hwge q h) (k_X13_drawn l D cy ld ad am hD _ _ _ _ x1 x2 hIF hIG hIR) ⟨callB_of 2 htl (wl_inL mw_1703) rfl rfl rfl (htl _ mw_5) (htl _ mw_1700) hd_yX13_drawn ⟨(Nat.le_of_ble_eq_true rfl), (Nat.le_of_ble_eq_true rfl)⟩, htl _ mw_1701, htl _ mw_1702⟩ rfl hl.1 rfl (Nat.le_of_ble_eq_true rfl) dL_law_1286 ⟨by show cells + 0 + 0 ≤ 600000; omega, by show slots + 0 + 0 ≤ 7302250; omega⟩ (fun r2 H locs F G R S hpo hM hS hz9 hq9 => ?_)
  have hall := fun (q : Nat) (hq : (t q).1 ≠ 0) => hq9 q (hG.lt hq) (hsep q hq)
  have hG := hG.frame (H1 := H) hall
  have hC := jC.all hT.1 hC hall
  have hKI := jK.all hT hKI hall
  have htp := htp.kept (hall _ (by rw [ht_ld26]; exact Nat.succ_ne_zero _))
  have hj13 := hj13.kept (hall _ (by rw [ht0]; exact Nat.succ_ne_zero _))
  have hj15 := hj15.kept (hall _ (by rw [ht0]; exact Nat.succ_ne_zero _))
  obtain ⟨hIF, hIG, hIR, hfr9, hrr9, hgr9⟩ := hpo
  have hR := hR.rel (rK3.refl (hrr9 3 (by decide)))
  have hKI : jK D ld (R 4) (R 5) H := by rw [hrr9 4 (by decide), hrr9 5 (by decide)]; exact hKI
  have eF13 := (hfr9 13 (by decide)).trans ey0
  have htr : ∀ j : Nat, (j : Int) < y0.toInt → ft j = R 12 j := by rw [hrr9 12 (by decide)]; exact htr
  have eF11 := (hfr9 11 (by decide)).trans ey5
  have hJ9 : lw_J D ld t a0 F R H := ⟨hT, ⟨_, _, _, _, _, _, _, _, _, _, hC, hR⟩, hKI, ⟨_, htp, by rw [eF13]; exact htr⟩, by rw [eF13]; exact hj13, by rw [eF11]; exact hj15⟩
  refine lv_pop hx hb dL_law_1289 rfl ?_
  refine lv_goto (tgt := 1375) hx hb dL_law_1290 (by decide) ?_
  refine W.widen (k := cells + 7) (n := slots + 1106) (by exact Nat.le_add_right _ _) (by exact Nat.le_add_right _ _) ?_
  exact kk t F G R S H locs ls ⟨ht0, hG, hge, hD, hM, ⟨hIF, hIG, hIR⟩, hsep, hwge⟩ hJ9 hS hl
set_option maxHeartbeats 8000000 in
set_option maxRecDepth 100000 in
theorem law_37 {p : Program} {l : Launch} {e : Env} {s : State} {m : MethodId} {below : List Frame} {meth : Method} {c : Code} {b L : Nat} {xs : Nat → Int32} (C0 : lw_At p s m meth c b L xs) (htl : ∀ w ∈ wsA, w.before #[Value.ref b] s = true) {D : va_G} {cy : Nat → ClassId} {ld ad : Nat → Nat} (hK : kk_K D cy ld s) (hZ0 : tk_Z ld (fun _ => (0, 0, 0)) s) {t : tk_T} {a0 am : Nat} {F : Nat → Int32} {G : Nat → Int64} {R : Nat → Nat → Int32} {S : Nat → Nat → Int64} {H : Heap} {locs : List Loc} (hI : lw_I D cy ld t ad a0 am s.heap.size F G R S H) (hJ : lw_J D ld t a0 F R H) (hS : va_S (fun q : Nat => s.heap.size ≤ q) s.heap H locs) (hS0 : s.heap.size ≤ H.size) (hL : L ≤ 3072) {v : Int32} {i : Int} (hv : v.toInt = i) (hi : 0 ≤ i) (hiL : i + 6 ≤ (L : Int)) {cells slots : Nat} (hc : cells + 7 ≤ 600000) (hs : slots + 1106 ≤ 7302250) (ls : Array Slot) (hl : lv_has ls 4 [(3, .int v), (2, .ref am), (1, .ref a0), (0, .ref b)]) (kk : ∀ (t : tk_T) (F : Nat → Int32) (G : Nat → Int64) (R : Nat → Nat → Int32) (S : Nat → Nat → Int64) (H : Heap) (locs : List Loc) (ls : Array Slot), lw_I D cy ld t ad a0 am s.heap.size F G R S H → lw_J D ld t a0 F R H → va_S (fun q : Nat => s.heap.size ≤ q) s.heap H locs → lv_has ls 4 [(3, .int v), (2, .ref am), (1, .ref a0), (0, .ref b)] → W p l e room_1 s m #[Value.ref b] below meth c H locs (cells + 7) (slots + 1106) (lw_Z below #[Value.ref b] s) (F0 m 1375 ls [])) : W p l e room_1 s m #[Value.ref b] below meth c H locs (cells) (slots) (lw_Z below #[Value.ref b] s) (F0 m 1293 ls []) := by
  obtain ⟨hx, hb, hr, hml, hown, hts, hX, hbl, hlocks, hgv⟩ := id C0
  have hown : s.vm.findClass RL = some m.cls := hown
  have hbA : ¬ (fun q : Nat => s.heap.size ≤ q) b := Nat.not_le.mpr hbl
  obtain ⟨ht0, hG, hge, hD, hM, ⟨hIF, hIG, hIR⟩, hsep, hwge⟩ := hI
  have hZ := lw_Z0 hZ0 hge
  have hAZ : ∀ q : Nat, q < s.heap.size → (fun q : Nat => s.heap.size ≤ q) q → (t q).1 ≠ 0 := fun q h1 h2 => absurd h2 (Nat.not_le.mpr h1)
  obtain ⟨hT, ⟨n0, n1, n2, n3, fh, fs, fk, q1, q2, q3, hC, hR⟩, hKI, ⟨ft, htp, htr⟩, hj13, hj15⟩ := hJ
  obtain ⟨⟨e30, e31, e32, e33⟩, ⟨⟨b0, b1⟩, ⟨b2, b3⟩, ⟨b4, b5⟩, b6, b7⟩, -⟩ := id hR
  obtain ⟨y0, ey0⟩ : ∃ z : Int32, F 13 = z := ⟨_, rfl⟩
  have hy0 : 0 ≤ y0.toInt ∧ y0.toInt ≤ 400 := hIF.at ey0
  rw [ey0] at hj13 htr
  obtain ⟨y5, ey5⟩ : ∃ z : Int32, F 11 = z := ⟨_, rfl⟩
  rw [ey5] at hj15
  have hy5 := tk_rng y5
  obtain ⟨ht_ld20, ht_ld70, ht_ld80, ht_ld90, ht_ld100, ht_ld110, ht_ld120⟩ := id hT.1
  obtain ⟨ht_ld24, ht_ld76, ht_ld86, ht_ld96, ht_ld106, ht_ld116, ht_ld126⟩ := id hT.2.1
  obtain ⟨ht_ld25, ht_ld77, ht_ld87, ht_ld97, ht_ld107, ht_ld117, ht_ld127⟩ := id hT.2.2.1
  have ht_ld26 := hT.2.2.2.1
  have ht_ld49 := hT.2.2.2.2
  obtain ⟨x1, hx1⟩ : ∃ z, xs (v + 1 : Int32).toNatClampNeg = z := ⟨_, rfl⟩
  have hk1 : (1 : Int32).toInt = 1 := by decide
  rcases (show x1.toInt = 0 ∨ x1.toInt = 1 ∨ 2 ≤ x1.toInt ∨ x1.toInt ≤ -1 by omega) with hs1 | hs1 | hs1 | hs1
  · obtain rfl : x1 = 0 := (fi_eq rfl (show (0 : Int32).toInt = 0 by decide)).mpr hs1
    have hk_0 : (0 : Int32).toInt = 0 := by decide
    obtain ⟨kf, hkf, ⟨hk50, hk51⟩, ⟨⟨hr50, hr51⟩, hr52, hr53⟩, hi0, hi1⟩ := hKI
    have hR0 := hR
    refine lv_aload_n hx hb dL_law_1293 rfl (lv_at hl 2 rfl) ?_
    refine lv_aload_n hx hb dL_law_1294 rfl (lv_at hl 3 rfl) ?_
    refine lv_iload_n hx hb dL_law_1295 rfl (lv_at hl 0 rfl) ?_
    refine lv_iconst (v := 1) hx hb dL_law_1296 (by decide) ?_
    refine lv_iadd hx hb dL_law_1297 ?_
    refine va_sld hx hb hX hbl hbA hS (lw_in hv hk1 (by omega) (by omega) (by omega) hL) dL_law_1298 ?_
    refine fx_ti (v := 0) hx1 ?_
    refine tk_ViA (As := [.int 0]) (rest := []) (ci := 12) ⟨hx, hb, hml, hown, htl⟩ hK hG hZ hAZ hS (k_X12_image_0_x l D cy ld t a0 y0 y5 n0 n1 n2 n3 fh fs fk q1 q2 q3 kf ht0 ht_ld20 ht_ld70 ht_ld80 ht_ld90 ht_ld100 ht_ld110 ht_ld120 ht_ld49 ht_ld24 ht_ld76 ht_ld86 ht_ld96 ht_ld106 ht_ld116 ht_ld126 (by omega) (by omega) (by omega) (by omega) (by omega) (by omega) (by omega) (by omega) (by omega) (by omega) (by omega) (by omega)) ⟨hj13, hj15, hC, hkf⟩ ⟨callB_of 1 htl (wl_inL mw_1707) rfl rfl rfl (htl _ mw_2) (htl _ mw_1704) hd_yX12_image ⟨(Nat.le_of_ble_eq_true rfl), (Nat.le_of_ble_eq_true rfl)⟩, htl _ mw_1705, htl _ mw_1706⟩ ht0 (by decide) tk_no rfl (fun q h => hge q h.1) rfl hl.1 rfl (Nat.le_of_ble_eq_true rfl) dL_law_1299 ⟨by show cells + 0 ≤ 600000; omega, by show slots + 0 ≤ 7302250; omega⟩ (fun r1 H locs hpo1 hG hS hz9 hq9 => ?_)
    obtain ⟨hp1_0, hj13, hj15, hC, hCi, hkf⟩ := hpo1
    have hi1 := fun e => jI.call hT.2.2.1 (hi1 e) hq9 (by decide)
    have htp := htp.call hq9 (tk_w.no ht_ld26 (by decide))
    have hM := hM.frame (H1 := H) (fun q hq => hq9 q (hM.lt hq) (fun h => hsep q h.1 hq))
    refine lv_pop hx hb dL_law_1302 rfl ?_
    refine lv_aload_n hx hb dL_law_1303 rfl (lv_at hl 1 rfl) ?_
    refine lv_aload_n hx hb dL_law_1304 rfl (lv_at hl 3 rfl) ?_
    refine lv_iload_n hx hb dL_law_1305 rfl (lv_at hl 0 rfl) ?_
    refine lv_iconst (v := 1) hx hb dL_law_1306 (by decide) ?_
    refine lv_iadd hx hb dL_law_1307 ?_
    refine va_sld hx hb hX hbl hbA hS (lw_in hv hk1 (by omega) (by omega) (by omega) hL) dL_law_1308 ?_
    refine fx_ti (v := 0) hx1 ?_
    refine mz_ViA (As := [.int 0]) (rest := []) ⟨hx, hb, hml, hown, htl⟩ hK hM hS (fun q h => hwge q h) (k_X13_image_x l D cy ld ad am hD _ _ _ _ 0 hIF hIG hIR) ⟨callB_of 1 htl (wl_inL mw_1717) rfl rfl rfl (htl _ mw_5) (htl _ mw_1714) hd_yX13_image ⟨(Nat.le_of_ble_eq_true rfl), (Nat.le_of_ble_eq_true rfl)⟩, htl _ mw_1715, htl _ mw_1716⟩ rfl hl.1 rfl (Nat.le_of_ble_eq_true rfl) dL_law_1309 ⟨by show cells + 0 + 0 ≤ 600000; omega, by show slots + 0 + 0 ≤ 7302250; omega⟩ (fun r2 H locs F G R S hpo hM hS hz9 hq9 => ?_)
    have hall := fun (q : Nat) (hq : (t q).1 ≠ 0) => hq9 q (hG.lt hq) (hsep q hq)
    have hG := hG.frame (H1 := H) hall
    have hC := jC.all hT.1 hC hall
    have hi1 := fun e => jI.all hT.2.2.1 (hi1 e) hall
    have hkf : tk_ab H (ld 49) _ := hkf.kept (hall _ (by rw [ht_ld49]; exact Nat.succ_ne_zero _))
    have hCi := jC.all hT.2.1 hCi hall
    have htp := htp.kept (hall _ (by rw [ht_ld26]; exact Nat.succ_ne_zero _))
    have hj13 := hj13.kept (hall _ (by rw [ht0]; exact Nat.succ_ne_zero _))
    have hj15 := hj15.kept (hall _ (by rw [ht0]; exact Nat.succ_ne_zero _))
    obtain ⟨hIF, hIG, hIR, hfr9, hrr9, hgr9, hp2_0⟩ := hpo
    have hR := hR.rel (rK3.refl (hrr9 3 (by decide)))
    have hqx := hp2_0.1 (by decide) (by decide)
    have hKI : jK D ld (R 4) (R 5) H := jK.image0 hkf ⟨hk50, hk51⟩ ⟨⟨hr50, hr51⟩, hr52, hr53⟩ hCi hR0 hi1 hqx.2.1 hqx.2.2
    have eF13 := (hfr9 13 (by decide)).trans ey0
    have htr : ∀ j : Nat, (j : Int) < y0.toInt → ft j = R 12 j := by rw [hrr9 12 (by decide)]; exact htr
    have eF11 := (hfr9 11 (by decide)).trans ey5
    have hv9 : r1.toInt = r2.toInt := by have h1 := hp1_0; have h2 := hqx.1; omega
    have hJ9 : lw_J D ld t a0 F R H := ⟨hT, ⟨_, _, _, _, _, _, _, _, _, _, hC, hR⟩, hKI, ⟨_, htp, by rw [eF13]; exact htr⟩, by rw [eF13]; exact hj13, by rw [eF11]; exact hj15⟩
    refine lv_pop hx hb dL_law_1312 rfl ?_
    refine lv_goto (tgt := 1375) hx hb dL_law_1313 (by decide) ?_
    refine W.widen (k := cells + 7) (n := slots + 1106) (by exact Nat.le_add_right _ _) (by exact Nat.le_add_right _ _) ?_
    exact kk t F G R S H locs ls ⟨ht0, hG, hge, hD, hM, ⟨hIF, hIG, hIR⟩, hsep, hwge⟩ hJ9 hS hl
  · obtain rfl : x1 = 1 := (fi_eq rfl (show (1 : Int32).toInt = 1 by decide)).mpr hs1
    have hk_1 : (1 : Int32).toInt = 1 := by decide
    obtain ⟨kf, hkf, ⟨hk50, hk51⟩, ⟨⟨hr50, hr51⟩, hr52, hr53⟩, hi0, hi1⟩ := hKI
    have hR0 := hR
    refine lv_aload_n hx hb dL_law_1293 rfl (lv_at hl 2 rfl) ?_
    refine lv_aload_n hx hb dL_law_1294 rfl (lv_at hl 3 rfl) ?_
    refine lv_iload_n hx hb dL_law_1295 rfl (lv_at hl 0 rfl) ?_
    refine lv_iconst (v := 1) hx hb dL_law_1296 (by decide) ?_
    refine lv_iadd hx hb dL_law_1297 ?_
    refine va_sld hx hb hX hbl hbA hS (lw_in hv hk1 (by omega) (by omega) (by omega) hL) dL_law_1298 ?_
    refine fx_ti (v := 1) hx1 ?_
    refine tk_ViA (As := [.int 1]) (rest := []) (ci := 12) ⟨hx, hb, hml, hown, htl⟩ hK hG hZ hAZ hS (k_X12_image_1_x l D cy ld t a0 y0 y5 n0 n1 n2 n3 fh fs fk q1 q2 q3 kf ht0 ht_ld20 ht_ld70 ht_ld80 ht_ld90 ht_ld100 ht_ld110 ht_ld120 ht_ld49 ht_ld25 ht_ld77 ht_ld87 ht_ld97 ht_ld107 ht_ld117 ht_ld127 (by omega) (by omega) (by omega) (by omega) (by omega) (by omega) (by omega) (by omega) (by omega) (by omega) (by omega) (by omega)) ⟨hj13, hj15, hC, hkf⟩ ⟨callB_of 1 htl (wl_inL mw_1707) rfl rfl rfl (htl _ mw_2) (htl _ mw_1704) hd_yX12_image ⟨(Nat.le_of_ble_eq_true rfl), (Nat.le_of_ble_eq_true rfl)⟩, htl _ mw_1705, htl _ mw_1706⟩ ht0 (by decide) tk_no rfl (fun q h => hge q h.1) rfl hl.1 rfl (Nat.le_of_ble_eq_true rfl) dL_law_1299 ⟨by show cells + 0 ≤ 600000; omega, by show slots + 0 ≤ 7302250; omega⟩ (fun r1 H locs hpo1 hG hS hz9 hq9 => ?_)
    obtain ⟨hp1_0, hj13, hj15, hC, hCi, hkf⟩ := hpo1
    have hi0 := fun e => jI.call hT.2.1 (hi0 e) hq9 (by decide)
    have htp := htp.call hq9 (tk_w.no ht_ld26 (by decide))
    have hM := hM.frame (H1 := H) (fun q hq => hq9 q (hM.lt hq) (fun h => hsep q h.1 hq))
    refine lv_pop hx hb dL_law_1302 rfl ?_
    refine lv_aload_n hx hb dL_law_1303 rfl (lv_at hl 1 rfl) ?_
    refine lv_aload_n hx hb dL_law_1304 rfl (lv_at hl 3 rfl) ?_
    refine lv_iload_n hx hb dL_law_1305 rfl (lv_at hl 0 rfl) ?_
    refine lv_iconst (v := 1) hx hb dL_law_1306 (by decide) ?_
    refine lv_iadd hx hb dL_law_1307 ?_
    refine va_sld hx hb hX hbl hbA hS (lw_in hv hk1 (by omega) (by omega) (by omega) hL) dL_law_1308 ?_
    refine fx_ti (v := 1) hx1 ?_
    refine mz_ViA (As := [.int 1]) (rest := []) ⟨hx, hb, hml, hown, htl⟩ hK hM hS (fun q h => hwge q h) (k_X13_image_x l D cy ld ad am hD _ _ _ _ 1 hIF hIG hIR) ⟨callB_of 1 htl (wl_inL mw_1717) rfl rfl rfl (htl _ mw_5) (htl _ mw_1714) hd_yX13_image ⟨(Nat.le_of_ble_eq_true rfl), (Nat.le_of_ble_eq_true rfl)⟩, htl _ mw_1715, htl _ mw_1716⟩ rfl hl.1 rfl (Nat.le_of_ble_eq_true rfl) dL_law_1309 ⟨by show cells + 0 + 0 ≤ 600000; omega, by show slots + 0 + 0 ≤ 7302250; omega⟩ (fun r2 H locs F G R S hpo hM hS hz9 hq9 => ?_)
    have hall := fun (q : Nat) (hq : (t q).1 ≠ 0) => hq9 q (hG.lt hq) (hsep q hq)
    have hG := hG.frame (H1 := H) hall
    have hC := jC.all hT.1 hC hall
    have hi0 := fun e => jI.all hT.2.1 (hi0 e) hall
    have hkf : tk_ab H (ld 49) _ := hkf.kept (hall _ (by rw [ht_ld49]; exact Nat.succ_ne_zero _))
    have hCi := jC.all hT.2.2.1 hCi hall
    have htp := htp.kept (hall _ (by rw [ht_ld26]; exact Nat.succ_ne_zero _))
    have hj13 := hj13.kept (hall _ (by rw [ht0]; exact Nat.succ_ne_zero _))
    have hj15 := hj15.kept (hall _ (by rw [ht0]; exact Nat.succ_ne_zero _))
    obtain ⟨hIF, hIG, hIR, hfr9, hrr9, hgr9, hp2_0⟩ := hpo
    have hR := hR.rel (rK3.refl (hrr9 3 (by decide)))
    have hqx := hp2_0.1 (by decide) (by decide)
    have hKI : jK D ld (R 4) (R 5) H := jK.image1 hkf ⟨hk50, hk51⟩ ⟨⟨hr50, hr51⟩, hr52, hr53⟩ hCi hR0 hi0 hqx.2.1 hqx.2.2
    have eF13 := (hfr9 13 (by decide)).trans ey0
    have htr : ∀ j : Nat, (j : Int) < y0.toInt → ft j = R 12 j := by rw [hrr9 12 (by decide)]; exact htr
    have eF11 := (hfr9 11 (by decide)).trans ey5
    have hv9 : r1.toInt = r2.toInt := by have h1 := hp1_0; have h2 := hqx.1; omega
    have hJ9 : lw_J D ld t a0 F R H := ⟨hT, ⟨_, _, _, _, _, _, _, _, _, _, hC, hR⟩, hKI, ⟨_, htp, by rw [eF13]; exact htr⟩, by rw [eF13]; exact hj13, by rw [eF11]; exact hj15⟩
    refine lv_pop hx hb dL_law_1312 rfl ?_
    refine lv_goto (tgt := 1375) hx hb dL_law_1313 (by decide) ?_
    refine W.widen (k := cells + 7) (n := slots + 1106) (by exact Nat.le_add_right _ _) (by exact Nat.le_add_right _ _) ?_
    exact kk t F G R S H locs ls ⟨ht0, hG, hge, hD, hM, ⟨hIF, hIG, hIR⟩, hsep, hwge⟩ hJ9 hS hl
  · refine lv_aload_n hx hb dL_law_1293 rfl (lv_at hl 2 rfl) ?_
    refine lv_aload_n hx hb dL_law_1294 rfl (lv_at hl 3 rfl) ?_
    refine lv_iload_n hx hb dL_law_1295 rfl (lv_at hl 0 rfl) ?_
    refine lv_iconst (v := 1) hx hb dL_law_1296 (by decide) ?_
    refine lv_iadd hx hb dL_law_1297 ?_
    refine va_sld hx hb hX hbl hbA hS (lw_in hv hk1 (by omega) (by omega) (by omega) hL) dL_law_1298 ?_
    refine fx_ti (v := x1) hx1 ?_
    refine tk_ViA (As := [.int x1]) (rest := []) (ci := 12) ⟨hx, hb, hml, hown, htl⟩ hK hG hZ hAZ hS (k_X12_image_hi_x l D cy ld t a0 x1 y0 y5 ht0 (by omega) (by omega) (by omega) (by omega) (by omega)) ⟨hj13, hj15⟩ ⟨callB_of 1 htl (wl_inL mw_1707) rfl rfl rfl (htl _ mw_2) (htl _ mw_1704) hd_yX12_image ⟨(Nat.le_of_ble_eq_true rfl), (Nat.le_of_ble_eq_true rfl)⟩, htl _ mw_1705, htl _ mw_1706⟩ ht0 (by decide) tk_no rfl (fun q h => hge q h.1) rfl hl.1 rfl (Nat.le_of_ble_eq_true rfl) dL_law_1299 ⟨by show cells + 0 ≤ 600000; omega, by show slots + 0 ≤ 7302250; omega⟩ (fun r1 H locs hpo1 hG hS hz9 hq9 => ?_)
    obtain ⟨hp1_0, hj13, hj15⟩ := hpo1
    have hC := jC.call hT.1 hC hq9 (by decide)
    have hKI := jK.call hT hKI hq9 (by decide) (by decide) (by decide)
    have htp := htp.call hq9 (tk_w.no ht_ld26 (by decide))
    have hM := hM.frame (H1 := H) (fun q hq => hq9 q (hM.lt hq) (fun h => hsep q h.1 hq))
    refine lv_pop hx hb dL_law_1302 rfl ?_
    refine lv_aload_n hx hb dL_law_1303 rfl (lv_at hl 1 rfl) ?_
    refine lv_aload_n hx hb dL_law_1304 rfl (lv_at hl 3 rfl) ?_
    refine lv_iload_n hx hb dL_law_1305 rfl (lv_at hl 0 rfl) ?_
    refine lv_iconst (v := 1) hx hb dL_law_1306 (by decide) ?_
    refine lv_iadd hx hb dL_law_1307 ?_
    refine va_sld hx hb hX hbl hbA hS (lw_in hv hk1 (by omega) (by omega) (by omega) hL) dL_law_1308 ?_
    refine fx_ti (v := x1) hx1 ?_
    refine mz_ViA (As := [.int x1]) (rest := []) ⟨hx, hb, hml, hown, htl⟩ hK hM hS (fun q h => hwge q h) (k_X13_image_x l D cy ld ad am hD _ _ _ _ x1 hIF hIG hIR) ⟨callB_of 1 htl (wl_inL mw_1717) rfl rfl rfl (htl _ mw_5) (htl _ mw_1714) hd_yX13_image ⟨(Nat.le_of_ble_eq_true rfl), (Nat.le_of_ble_eq_true rfl)⟩, htl _ mw_1715, htl _ mw_1716⟩ rfl hl.1 rfl (Nat.le_of_ble_eq_true rfl) dL_law_1309 ⟨by show cells + 0 + 0 ≤ 600000; omega, by show slots + 0 + 0 ≤ 7302250; omega⟩ (fun r2 H locs F G R S hpo hM hS hz9 hq9 => ?_)
    have hall := fun (q : Nat) (hq : (t q).1 ≠ 0) => hq9 q (hG.lt hq) (hsep q hq)
    have hG := hG.frame (H1 := H) hall
    have hC := jC.all hT.1 hC hall
    have hKI := jK.all hT hKI hall
    have htp := htp.kept (hall _ (by rw [ht_ld26]; exact Nat.succ_ne_zero _))
    have hj13 := hj13.kept (hall _ (by rw [ht0]; exact Nat.succ_ne_zero _))
    have hj15 := hj15.kept (hall _ (by rw [ht0]; exact Nat.succ_ne_zero _))
    obtain ⟨hIF, hIG, hIR, hfr9, hrr9, hgr9, hp2_0⟩ := hpo
    have hR := hR.rel (rK3.refl (hrr9 3 (by decide)))
    have hqx := hp2_0.2 (Or.inr hs1)
    have hKI : jK D ld (R 4) (R 5) H := by rw [hqx.2.1, hqx.2.2]; exact hKI
    have eF13 := (hfr9 13 (by decide)).trans ey0
    have htr : ∀ j : Nat, (j : Int) < y0.toInt → ft j = R 12 j := by rw [hrr9 12 (by decide)]; exact htr
    have eF11 := (hfr9 11 (by decide)).trans ey5
    have hv9 : r1.toInt = r2.toInt := by have h1 := hp1_0; have h2 := hqx.1; omega
    have hJ9 : lw_J D ld t a0 F R H := ⟨hT, ⟨_, _, _, _, _, _, _, _, _, _, hC, hR⟩, hKI, ⟨_, htp, by rw [eF13]; exact htr⟩, by rw [eF13]; exact hj13, by rw [eF11]; exact hj15⟩
    refine lv_pop hx hb dL_law_1312 rfl ?_
    refine lv_goto (tgt := 1375) hx hb dL_law_1313 (by decide) ?_
    refine W.widen (k := cells + 7) (n := slots + 1106) (by exact Nat.le_add_right _ _) (by exact Nat.le_add_right _ _) ?_
    exact kk t F G R S H locs ls ⟨ht0, hG, hge, hD, hM, ⟨hIF, hIG, hIR⟩, hsep, hwge⟩ hJ9 hS hl
  · refine lv_aload_n hx hb dL_law_1293 rfl (lv_at hl 2 rfl) ?_
    refine lv_aload_n hx hb dL_law_1294 rfl (lv_at hl 3 rfl) ?_
    refine lv_iload_n hx hb dL_law_1295 rfl (lv_at hl 0 rfl) ?_
    refine lv_iconst (v := 1) hx hb dL_law_1296 (by decide) ?_
    refine lv_iadd hx hb dL_law_1297 ?_
    refine va_sld hx hb hX hbl hbA hS (lw_in hv hk1 (by omega) (by omega) (by omega) hL) dL_law_1298 ?_
    refine fx_ti (v := x1) hx1 ?_
    refine tk_ViA (As := [.int x1]) (rest := []) (ci := 12) ⟨hx, hb, hml, hown, htl⟩ hK hG hZ hAZ hS (k_X12_image_lo_x l D cy ld t a0 x1 y0 y5 ht0 (by omega) (by omega) (by omega) (by omega) (by omega)) ⟨hj13, hj15⟩ ⟨callB_of 1 htl (wl_inL mw_1707) rfl rfl rfl (htl _ mw_2) (htl _ mw_1704) hd_yX12_image ⟨(Nat.le_of_ble_eq_true rfl), (Nat.le_of_ble_eq_true rfl)⟩, htl _ mw_1705, htl _ mw_1706⟩ ht0 (by decide) tk_no rfl (fun q h => hge q h.1) rfl hl.1 rfl (Nat.le_of_ble_eq_true rfl) dL_law_1299 ⟨by show cells + 0 ≤ 600000; omega, by show slots + 0 ≤ 7302250; omega⟩ (fun r1 H locs hpo1 hG hS hz9 hq9 => ?_)
    obtain ⟨hp1_0, hj13, hj15⟩ := hpo1
    have hC := jC.call hT.1 hC hq9 (by decide)
    have hKI := jK.call hT hKI hq9 (by decide) (by decide) (by decide)
    have htp := htp.call hq9 (tk_w.no ht_ld26 (by decide))
    have hM := hM.frame (H1 := H) (fun q hq => hq9 q (hM.lt hq) (fun h => hsep q h.1 hq))
    refine lv_pop hx hb dL_law_1302 rfl ?_
    refine lv_aload_n hx hb dL_law_1303 rfl (lv_at hl 1 rfl) ?_
    refine lv_aload_n hx hb dL_law_1304 rfl (lv_at hl 3 rfl) ?_
    refine lv_iload_n hx hb dL_law_1305 rfl (lv_at hl 0 rfl) ?_
    refine lv_iconst (v := 1) hx hb dL_law_1306 (by decide) ?_
    refine lv_iadd hx hb dL_law_1307 ?_
    refine va_sld hx hb hX hbl hbA hS (lw_in hv hk1 (by omega) (by omega) (by omega) hL) dL_law_1308 ?_
    refine fx_ti (v := x1) hx1 ?_
    refine mz_ViA (As := [.int x1]) (rest := []) ⟨hx, hb, hml, hown, htl⟩ hK hM hS (fun q h => hwge q h) (k_X13_image_x l D cy ld ad am hD _ _ _ _ x1 hIF hIG hIR) ⟨callB_of 1 htl (wl_inL mw_1717) rfl rfl rfl (htl _ mw_5) (htl _ mw_1714) hd_yX13_image ⟨(Nat.le_of_ble_eq_true rfl), (Nat.le_of_ble_eq_true rfl)⟩, htl _ mw_1715, htl _ mw_1716⟩ rfl hl.1 rfl (Nat.le_of_ble_eq_true rfl) dL_law_1309 ⟨by show cells + 0 + 0 ≤ 600000; omega, by show slots + 0 + 0 ≤ 7302250; omega⟩ (fun r2 H locs F G R S hpo hM hS hz9 hq9 => ?_)
    have hall := fun (q : Nat) (hq : (t q).1 ≠ 0) => hq9 q (hG.lt hq) (hsep q hq)
    have hG := hG.frame (H1 := H) hall
    have hC := jC.all hT.1 hC hall
    have hKI := jK.all hT hKI hall
    have htp := htp.kept (hall _ (by rw [ht_ld26]; exact Nat.succ_ne_zero _))
    have hj13 := hj13.kept (hall _ (by rw [ht0]; exact Nat.succ_ne_zero _))
    have hj15 := hj15.kept (hall _ (by rw [ht0]; exact Nat.succ_ne_zero _))
    obtain ⟨hIF, hIG, hIR, hfr9, hrr9, hgr9, hp2_0⟩ := hpo
    have hR := hR.rel (rK3.refl (hrr9 3 (by decide)))
    have hqx := hp2_0.2 (Or.inl hs1)
    have hKI : jK D ld (R 4) (R 5) H := by rw [hqx.2.1, hqx.2.2]; exact hKI
    have eF13 := (hfr9 13 (by decide)).trans ey0
    have htr : ∀ j : Nat, (j : Int) < y0.toInt → ft j = R 12 j := by rw [hrr9 12 (by decide)]; exact htr
    have eF11 := (hfr9 11 (by decide)).trans ey5
    have hv9 : r1.toInt = r2.toInt := by have h1 := hp1_0; have h2 := hqx.1; omega
    have hJ9 : lw_J D ld t a0 F R H := ⟨hT, ⟨_, _, _, _, _, _, _, _, _, _, hC, hR⟩, hKI, ⟨_, htp, by rw [eF13]; exact htr⟩, by rw [eF13]; exact hj13, by rw [eF11]; exact hj15⟩
    refine lv_pop hx hb dL_law_1312 rfl ?_
    refine lv_goto (tgt := 1375) hx hb dL_law_1313 (by decide) ?_
    refine W.widen (k := cells + 7) (n := slots + 1106) (by exact Nat.le_add_right _ _) (by exact Nat.le_add_right _ _) ?_
    exact kk t F G R S H locs ls ⟨ht0, hG, hge, hD, hM, ⟨hIF, hIG, hIR⟩, hsep, hwge⟩ hJ9 hS hl
set_option maxHeartbeats 8000000 in
set_option maxRecDepth 100000 in
theorem law_38 {p : Program} {l : Launch} {e : Env} {s : State} {m : MethodId} {below : List Frame} {meth : Method} {c : Code} {b L : Nat} {xs : Nat → Int32} (C0 : lw_At p s m meth c b L xs) (htl : ∀ w ∈ wsA, w.before #[Value.ref b] s = true) {D : va_G} {cy : Nat → ClassId} {ld ad : Nat → Nat} (hK : kk_K D cy ld s) (hZ0 : tk_Z ld (fun _ => (0, 0, 0)) s) {t : tk_T} {a0 am : Nat} {F : Nat → Int32} {G : Nat → Int64} {R : Nat → Nat → Int32} {S : Nat → Nat → Int64} {H : Heap} {locs : List Loc} (hI : lw_I D cy ld t ad a0 am s.heap.size F G R S H) (hJ : lw_J D ld t a0 F R H) (hS : va_S (fun q : Nat => s.heap.size ≤ q) s.heap H locs) (hS0 : s.heap.size ≤ H.size) (hL : L ≤ 3072) {v : Int32} {i : Int} (hv : v.toInt = i) (hi : 0 ≤ i) (hiL : i + 6 ≤ (L : Int)) {cells slots : Nat} (hc : cells + 7 ≤ 600000) (hs : slots + 1106 ≤ 7302250) (ls : Array Slot) (hl : lv_has ls 4 [(3, .int v), (2, .ref am), (1, .ref a0), (0, .ref b)]) (kk : ∀ (t : tk_T) (F : Nat → Int32) (G : Nat → Int64) (R : Nat → Nat → Int32) (S : Nat → Nat → Int64) (H : Heap) (locs : List Loc) (ls : Array Slot), lw_I D cy ld t ad a0 am s.heap.size F G R S H → lw_J D ld t a0 F R H → va_S (fun q : Nat => s.heap.size ≤ q) s.heap H locs → lv_has ls 4 [(3, .int v), (2, .ref am), (1, .ref a0), (0, .ref b)] → W p l e room_1 s m #[Value.ref b] below meth c H locs (cells + 7) (slots + 1106) (lw_Z below #[Value.ref b] s) (F0 m 1375 ls [])) : W p l e room_1 s m #[Value.ref b] below meth c H locs (cells) (slots) (lw_Z below #[Value.ref b] s) (F0 m 1316 ls []) := by
  obtain ⟨hx, hb, hr, hml, hown, hts, hX, hbl, hlocks, hgv⟩ := id C0
  have hown : s.vm.findClass RL = some m.cls := hown
  have hbA : ¬ (fun q : Nat => s.heap.size ≤ q) b := Nat.not_le.mpr hbl
  obtain ⟨ht0, hG, hge, hD, hM, ⟨hIF, hIG, hIR⟩, hsep, hwge⟩ := hI
  have hZ := lw_Z0 hZ0 hge
  have hAZ : ∀ q : Nat, q < s.heap.size → (fun q : Nat => s.heap.size ≤ q) q → (t q).1 ≠ 0 := fun q h1 h2 => absurd h2 (Nat.not_le.mpr h1)
  obtain ⟨hT, ⟨n0, n1, n2, n3, fh, fs, fk, q1, q2, q3, hC, hR⟩, hKI, ⟨ft, htp, htr⟩, hj13, hj15⟩ := hJ
  obtain ⟨⟨e30, e31, e32, e33⟩, ⟨⟨b0, b1⟩, ⟨b2, b3⟩, ⟨b4, b5⟩, b6, b7⟩, -⟩ := id hR
  obtain ⟨y0, ey0⟩ : ∃ z : Int32, F 13 = z := ⟨_, rfl⟩
  have hy0 : 0 ≤ y0.toInt ∧ y0.toInt ≤ 400 := hIF.at ey0
  rw [ey0] at hj13 htr
  obtain ⟨y5, ey5⟩ : ∃ z : Int32, F 11 = z := ⟨_, rfl⟩
  rw [ey5] at hj15
  have hy5 := tk_rng y5
  obtain ⟨ht_ld20, ht_ld70, ht_ld80, ht_ld90, ht_ld100, ht_ld110, ht_ld120⟩ := id hT.1
  obtain ⟨ht_ld24, ht_ld76, ht_ld86, ht_ld96, ht_ld106, ht_ld116, ht_ld126⟩ := id hT.2.1
  obtain ⟨ht_ld25, ht_ld77, ht_ld87, ht_ld97, ht_ld107, ht_ld117, ht_ld127⟩ := id hT.2.2.1
  have ht_ld26 := hT.2.2.2.1
  have ht_ld49 := hT.2.2.2.2
  obtain ⟨x1, hx1⟩ : ∃ z, xs (v + 1 : Int32).toNatClampNeg = z := ⟨_, rfl⟩
  have hk1 : (1 : Int32).toInt = 1 := by decide
  rcases (show x1.toInt = 0 ∨ x1.toInt = 1 ∨ 2 ≤ x1.toInt ∨ x1.toInt ≤ -1 by omega) with hs1 | hs1 | hs1 | hs1
  · obtain rfl : x1 = 0 := (fi_eq rfl (show (0 : Int32).toInt = 0 by decide)).mpr hs1
    have hk_0 : (0 : Int32).toInt = 0 := by decide
    obtain ⟨kf, hkf, ⟨hk50, hk51⟩, ⟨⟨hr50, hr51⟩, hr52, hr53⟩, hi0, hi1⟩ := hKI
    have hR0 := hR
    obtain ⟨g9, hg9⟩ : ∃ z : Int32, kf 0 = z := ⟨_, rfl⟩
    have hg90 : 0 ≤ g9.toInt ∧ g9.toInt ≤ 1 := by rw [← hg9]; exact ⟨hr50, hr51⟩
    obtain ⟨m0, m1, m2, m3, gh, gs, gk, s1, s2, s3, hCm, ⟨⟨bm0, bm1⟩, ⟨bm2, bm3⟩, ⟨bm4, bm5⟩, bm6, bm7⟩, hRm⟩ := jC.rng (kf0 := kf 0) hG hT.2.1 hi0
    have hsp : g9.toInt ≤ 0 ∨ 1 ≤ g9.toInt := by omega
    refine lv_aload_n hx hb dL_law_1316 rfl (lv_at hl 2 rfl) ?_
    refine lv_aload_n hx hb dL_law_1317 rfl (lv_at hl 3 rfl) ?_
    refine lv_iload_n hx hb dL_law_1318 rfl (lv_at hl 0 rfl) ?_
    refine lv_iconst (v := 1) hx hb dL_law_1319 (by decide) ?_
    refine lv_iadd hx hb dL_law_1320 ?_
    refine va_sld hx hb hX hbl hbA hS (lw_in hv hk1 (by omega) (by omega) (by omega) hL) dL_law_1321 ?_
    refine fx_ti (v := 0) hx1 ?_
    refine tk_ViA (As := [.int 0]) (rest := []) (ci := 12) ⟨hx, hb, hml, hown, htl⟩ hK hG hZ hAZ hS (k_X12_back_0_x l D cy ld t a0 y0 y5 g9 n0 n1 n2 n3 fh fs fk q1 q2 q3 m0 m1 m2 m3 gh gs gk s1 s2 s3 kf ht0 ht_ld20 ht_ld70 ht_ld80 ht_ld90 ht_ld100 ht_ld110 ht_ld120 ht_ld24 ht_ld76 ht_ld86 ht_ld96 ht_ld106 ht_ld116 ht_ld126 ht_ld49 (by omega) (by omega) (by omega) (by omega) (by omega) (by omega) (by omega) (by omega) (by omega) (by omega) (by omega) (by omega) (by omega) (by omega) (by omega) (by omega) (by omega) (by omega) (by omega) (by omega) (by omega) (by omega) hg9) ⟨hj13, hj15, hC, hCm, hkf⟩ ⟨callB_of 1 htl (wl_inL mw_1721) rfl rfl rfl (htl _ mw_2) (htl _ mw_1718) hd_yX12_back ⟨(Nat.le_of_ble_eq_true rfl), (Nat.le_of_ble_eq_true rfl)⟩, htl _ mw_1719, htl _ mw_1720⟩ ht0 (by decide) tk_no rfl (fun q h => hge q h.1) rfl hl.1 rfl (Nat.le_of_ble_eq_true rfl) dL_law_1322 ⟨by show cells + 0 ≤ 600000; omega, by show slots + 0 ≤ 7302250; omega⟩ (fun r1 H locs hpo1 hG hS hz9 hq9 => ?_)
    obtain ⟨hp1_0, hp1_1, hj13, hj15, ⟨wn0, wn1, wn2, wn3, hC, hw0, hw1, hw2, hw3, hw4, hw5, hw6, hw7⟩, hCm, hkf⟩ := hpo1
    have hi1 := fun e => jI.call hT.2.2.1 (hi1 e) hq9 (by decide)
    have htp := htp.call hq9 (tk_w.no ht_ld26 (by decide))
    have hM := hM.frame (H1 := H) (fun q hq => hq9 q (hM.lt hq) (fun h => hsep q h.1 hq))
    refine lv_pop hx hb dL_law_1325 rfl ?_
    refine lv_aload_n hx hb dL_law_1326 rfl (lv_at hl 1 rfl) ?_
    refine lv_aload_n hx hb dL_law_1327 rfl (lv_at hl 3 rfl) ?_
    refine lv_iload_n hx hb dL_law_1328 rfl (lv_at hl 0 rfl) ?_
    refine lv_iconst (v := 1) hx hb dL_law_1329 (by decide) ?_
    refine lv_iadd hx hb dL_law_1330 ?_
    refine va_sld hx hb hX hbl hbA hS (lw_in hv hk1 (by omega) (by omega) (by omega) hL) dL_law_1331 ?_
    refine fx_ti (v := 0) hx1 ?_
    refine mz_ViA (As := [.int 0]) (rest := []) ⟨hx, hb, hml, hown, htl⟩ hK hM hS (fun q h => hwge q h) (k_X13_back_x l D cy ld ad am hD _ _ _ _ 0 hIF hIG hIR) ⟨callB_of 1 htl (wl_inL mw_1725) rfl rfl rfl (htl _ mw_5) (htl _ mw_1722) hd_yX13_back ⟨(Nat.le_of_ble_eq_true rfl), (Nat.le_of_ble_eq_true rfl)⟩, htl _ mw_1723, htl _ mw_1724⟩ rfl hl.1 rfl (Nat.le_of_ble_eq_true rfl) dL_law_1332 ⟨by show cells + 0 + 0 ≤ 600000; omega, by show slots + 0 + 0 ≤ 7302250; omega⟩ (fun r2 H locs F G R S hpo hM hS hz9 hq9 => ?_)
    have hall := fun (q : Nat) (hq : (t q).1 ≠ 0) => hq9 q (hG.lt hq) (hsep q hq)
    have hG := hG.frame (H1 := H) hall
    have hC := jC.all hT.1 hC hall
    have hi1 := fun e => jI.all hT.2.2.1 (hi1 e) hall
    have hkf : tk_ab H (ld 49) _ := hkf.kept (hall _ (by rw [ht_ld49]; exact Nat.succ_ne_zero _))
    have hCm := jC.all hT.2.1 hCm hall
    have htp := htp.kept (hall _ (by rw [ht_ld26]; exact Nat.succ_ne_zero _))
    have hj13 := hj13.kept (hall _ (by rw [ht0]; exact Nat.succ_ne_zero _))
    have hj15 := hj15.kept (hall _ (by rw [ht0]; exact Nat.succ_ne_zero _))
    obtain ⟨hIF, hIG, hIR, hfr9, hrr9, hgr9, hp2_0⟩ := hpo
    have hg5 : (g9.toInt = 0 → r2.toInt = -2 ∧ R 3 = _) ∧ (g9.toInt ≠ 0 → r2.toInt = 0 ∧ R 3 = _) := ⟨fun h => hp2_0.2.1 (by decide) (by decide) ((congrArg Int32.toInt (hk50.symm.trans hg9)).trans h), fun h => hp2_0.1 (by decide) (by decide) (fun h2 => h ((congrArg Int32.toInt (hk50.symm.trans hg9)).symm.trans h2))⟩
    have hv9 : r1.toInt = r2.toInt := by
      rcases hsp with h | h
      · have h1 := hp1_1 h; have h2 := (hg5.1 (by omega)).1; omega
      · have h1 := hp1_0 h; have h2 := (hg5.2 (by omega)).1; omega
    have hR := jR.back (v := r1) (x0 := wn0) (x1 := wn1) (x2 := wn2) (x3 := wn3) hR (fun h => ⟨hRm (by rw [hg9]; exact (hsp.elim (fun h7 => by have h1 := hp1_1 h7; omega) (fun h7 => by omega))), by rw [(hg5.2 (hsp.elim (fun h7 => by have h1 := hp1_1 h7; omega) (fun h7 => by omega))).2]; exact jcp_back (p := 0), by have h1 := hw0 h; omega, by have h1 := hw2 h; omega, by have h1 := hw4 h; omega, by have h1 := hw6 h; omega⟩) (fun h => ⟨(hg5.1 (hsp.elim (fun h7 => by omega) (fun h7 => by have h1 := hp1_0 h7; omega))).2, by have h1 := hw1 h; omega, by have h1 := hw3 h; omega, by have h1 := hw5 h; omega, by have h1 := hw7 h; omega⟩)
    have hKI : jK D ld (R 4) (R 5) H := by rw [hrr9 4 (by decide), hrr9 5 (by decide)]; exact ⟨kf, hkf, ⟨hk50, hk51⟩, ⟨⟨hr50, hr51⟩, hr52, hr53⟩, (fun e => ⟨_, _, _, _, _, _, _, _, _, _, hCm, hRm e⟩), hi1⟩
    have eF13 := (hfr9 13 (by decide)).trans ey0
    have htr : ∀ j : Nat, (j : Int) < y0.toInt → ft j = R 12 j := by rw [hrr9 12 (by decide)]; exact htr
    have eF11 := (hfr9 11 (by decide)).trans ey5
    have hJ9 : lw_J D ld t a0 F R H := ⟨hT, ⟨_, _, _, _, _, _, _, _, _, _, hC, hR⟩, hKI, ⟨_, htp, by rw [eF13]; exact htr⟩, by rw [eF13]; exact hj13, by rw [eF11]; exact hj15⟩
    refine lv_pop hx hb dL_law_1335 rfl ?_
    refine lv_goto (tgt := 1375) hx hb dL_law_1336 (by decide) ?_
    refine W.widen (k := cells + 7) (n := slots + 1106) (by exact Nat.le_add_right _ _) (by exact Nat.le_add_right _ _) ?_
    exact kk t F G R S H locs ls ⟨ht0, hG, hge, hD, hM, ⟨hIF, hIG, hIR⟩, hsep, hwge⟩ hJ9 hS hl
  · obtain rfl : x1 = 1 := (fi_eq rfl (show (1 : Int32).toInt = 1 by decide)).mpr hs1
    have hk_1 : (1 : Int32).toInt = 1 := by decide
    obtain ⟨kf, hkf, ⟨hk50, hk51⟩, ⟨⟨hr50, hr51⟩, hr52, hr53⟩, hi0, hi1⟩ := hKI
    have hR0 := hR
    obtain ⟨g9, hg9⟩ : ∃ z : Int32, kf 1 = z := ⟨_, rfl⟩
    have hg90 : 0 ≤ g9.toInt ∧ g9.toInt ≤ 1 := by rw [← hg9]; exact ⟨hr52, hr53⟩
    obtain ⟨m0, m1, m2, m3, gh, gs, gk, s1, s2, s3, hCm, ⟨⟨bm0, bm1⟩, ⟨bm2, bm3⟩, ⟨bm4, bm5⟩, bm6, bm7⟩, hRm⟩ := jC.rng (kf0 := kf 1) hG hT.2.2.1 hi1
    have hsp : g9.toInt ≤ 0 ∨ 1 ≤ g9.toInt := by omega
    refine lv_aload_n hx hb dL_law_1316 rfl (lv_at hl 2 rfl) ?_
    refine lv_aload_n hx hb dL_law_1317 rfl (lv_at hl 3 rfl) ?_
    refine lv_iload_n hx hb dL_law_1318 rfl (lv_at hl 0 rfl) ?_
    refine lv_iconst (v := 1) hx hb dL_law_1319 (by decide) ?_
    refine lv_iadd hx hb dL_law_1320 ?_
    refine va_sld hx hb hX hbl hbA hS (lw_in hv hk1 (by omega) (by omega) (by omega) hL) dL_law_1321 ?_
    refine fx_ti (v := 1) hx1 ?_
    refine tk_ViA (As := [.int 1]) (rest := []) (ci := 12) ⟨hx, hb, hml, hown, htl⟩ hK hG hZ hAZ hS (k_X12_back_1_x l D cy ld t a0 y0 y5 g9 n0 n1 n2 n3 fh fs fk q1 q2 q3 m0 m1 m2 m3 gh gs gk s1 s2 s3 kf ht0 ht_ld20 ht_ld70 ht_ld80 ht_ld90 ht_ld100 ht_ld110 ht_ld120 ht_ld25 ht_ld77 ht_ld87 ht_ld97 ht_ld107 ht_ld117 ht_ld127 ht_ld49 (by omega) (by omega) (by omega) (by omega) (by omega) (by omega) (by omega) (by omega) (by omega) (by omega) (by omega) (by omega) (by omega) (by omega) (by omega) (by omega) (by omega) (by omega) (by omega) (by omega) (by omega) (by omega) hg9) ⟨hj13, hj15, hC, hCm, hkf⟩ ⟨callB_of 1 htl (wl_inL mw_1721) rfl rfl rfl (htl _ mw_2) (htl _ mw_1718) hd_yX12_back ⟨(Nat.le_of_ble_eq_true rfl), (Nat.le_of_ble_eq_true rfl)⟩, htl _ mw_1719, htl _ mw_1720⟩ ht0 (by decide) tk_no rfl (fun q h => hge q h.1) rfl hl.1 rfl (Nat.le_of_ble_eq_true rfl) dL_law_1322 ⟨by show cells + 0 ≤ 600000; omega, by show slots + 0 ≤ 7302250; omega⟩ (fun r1 H locs hpo1 hG hS hz9 hq9 => ?_)
    obtain ⟨hp1_0, hp1_1, hj13, hj15, ⟨wn0, wn1, wn2, wn3, hC, hw0, hw1, hw2, hw3, hw4, hw5, hw6, hw7⟩, hCm, hkf⟩ := hpo1
    have hi0 := fun e => jI.call hT.2.1 (hi0 e) hq9 (by decide)
    have htp := htp.call hq9 (tk_w.no ht_ld26 (by decide))
    have hM := hM.frame (H1 := H) (fun q hq => hq9 q (hM.lt hq) (fun h => hsep q h.1 hq))
    refine lv_pop hx hb dL_law_1325 rfl ?_
    refine lv_aload_n hx hb dL_law_1326 rfl (lv_at hl 1 rfl) ?_
    refine lv_aload_n hx hb dL_law_1327 rfl (lv_at hl 3 rfl) ?_
    refine lv_iload_n hx hb dL_law_1328 rfl (lv_at hl 0 rfl) ?_
    refine lv_iconst (v := 1) hx hb dL_law_1329 (by decide) ?_
    refine lv_iadd hx hb dL_law_1330 ?_
    refine va_sld hx hb hX hbl hbA hS (lw_in hv hk1 (by omega) (by omega) (by omega) hL) dL_law_1331 ?_
    refine fx_ti (v := 1) hx1 ?_
    refine mz_ViA (As := [.int 1]) (rest := []) ⟨hx, hb, hml, hown, htl⟩ hK hM hS (fun q h => hwge q h) (k_X13_back_x l D cy ld ad am hD _ _ _ _ 1 hIF hIG hIR) ⟨callB_of 1 htl (wl_inL mw_1725) rfl rfl rfl (htl _ mw_5) (htl _ mw_1722) hd_yX13_back ⟨(Nat.le_of_ble_eq_true rfl), (Nat.le_of_ble_eq_true rfl)⟩, htl _ mw_1723, htl _ mw_1724⟩ rfl hl.1 rfl (Nat.le_of_ble_eq_true rfl) dL_law_1332 ⟨by show cells + 0 + 0 ≤ 600000; omega, by show slots + 0 + 0 ≤ 7302250; omega⟩ (fun r2 H locs F G R S hpo hM hS hz9 hq9 => ?_)
    have hall := fun (q : Nat) (hq : (t q).1 ≠ 0) => hq9 q (hG.lt hq) (hsep q hq)
    have hG := hG.frame (H1 := H) hall
    have hC := jC.all hT.1 hC hall
    have hi0 := fun e => jI.all hT.2.1 (hi0 e) hall
    have hkf : tk_ab H (ld 49) _ := hkf.kept (hall _ (by rw [ht_ld49]; exact Nat.succ_ne_zero _))
    have hCm := jC.all hT.2.2.1 hCm hall
    have htp := htp.kept (hall _ (by rw [ht_ld26]; exact Nat.succ_ne_zero _))
    have hj13 := hj13.kept (hall _ (by rw [ht0]; exact Nat.succ_ne_zero _))
    have hj15 := hj15.kept (hall _ (by rw [ht0]; exact Nat.succ_ne_zero _))
    obtain ⟨hIF, hIG, hIR, hfr9, hrr9, hgr9, hp2_0⟩ := hpo
    have hg5 : (g9.toInt = 0 → r2.toInt = -2 ∧ R 3 = _) ∧ (g9.toInt ≠ 0 → r2.toInt = 0 ∧ R 3 = _) := ⟨fun h => hp2_0.2.1 (by decide) (by decide) ((congrArg Int32.toInt (hk51.symm.trans hg9)).trans h), fun h => hp2_0.1 (by decide) (by decide) (fun h2 => h ((congrArg Int32.toInt (hk51.symm.trans hg9)).symm.trans h2))⟩
    have hv9 : r1.toInt = r2.toInt := by
      rcases hsp with h | h
      · have h1 := hp1_1 h; have h2 := (hg5.1 (by omega)).1; omega
      · have h1 := hp1_0 h; have h2 := (hg5.2 (by omega)).1; omega
    have hR := jR.back (v := r1) (x0 := wn0) (x1 := wn1) (x2 := wn2) (x3 := wn3) hR (fun h => ⟨hRm (by rw [hg9]; exact (hsp.elim (fun h7 => by have h1 := hp1_1 h7; omega) (fun h7 => by omega))), by rw [(hg5.2 (hsp.elim (fun h7 => by have h1 := hp1_1 h7; omega) (fun h7 => by omega))).2]; exact jcp_back (p := 5560), by have h1 := hw0 h; omega, by have h1 := hw2 h; omega, by have h1 := hw4 h; omega, by have h1 := hw6 h; omega⟩) (fun h => ⟨(hg5.1 (hsp.elim (fun h7 => by omega) (fun h7 => by have h1 := hp1_0 h7; omega))).2, by have h1 := hw1 h; omega, by have h1 := hw3 h; omega, by have h1 := hw5 h; omega, by have h1 := hw7 h; omega⟩)
    have hKI : jK D ld (R 4) (R 5) H := by rw [hrr9 4 (by decide), hrr9 5 (by decide)]; exact ⟨kf, hkf, ⟨hk50, hk51⟩, ⟨⟨hr50, hr51⟩, hr52, hr53⟩, hi0, (fun e => ⟨_, _, _, _, _, _, _, _, _, _, hCm, hRm e⟩)⟩
    have eF13 := (hfr9 13 (by decide)).trans ey0
    have htr : ∀ j : Nat, (j : Int) < y0.toInt → ft j = R 12 j := by rw [hrr9 12 (by decide)]; exact htr
    have eF11 := (hfr9 11 (by decide)).trans ey5
    have hJ9 : lw_J D ld t a0 F R H := ⟨hT, ⟨_, _, _, _, _, _, _, _, _, _, hC, hR⟩, hKI, ⟨_, htp, by rw [eF13]; exact htr⟩, by rw [eF13]; exact hj13, by rw [eF11]; exact hj15⟩
    refine lv_pop hx hb dL_law_1335 rfl ?_
    refine lv_goto (tgt := 1375) hx hb dL_law_1336 (by decide) ?_
    refine W.widen (k := cells + 7) (n := slots + 1106) (by exact Nat.le_add_right _ _) (by exact Nat.le_add_right _ _) ?_
    exact kk t F G R S H locs ls ⟨ht0, hG, hge, hD, hM, ⟨hIF, hIG, hIR⟩, hsep, hwge⟩ hJ9 hS hl
  · refine lv_aload_n hx hb dL_law_1316 rfl (lv_at hl 2 rfl) ?_
    refine lv_aload_n hx hb dL_law_1317 rfl (lv_at hl 3 rfl) ?_
    refine lv_iload_n hx hb dL_law_1318 rfl (lv_at hl 0 rfl) ?_
    refine lv_iconst (v := 1) hx hb dL_law_1319 (by decide) ?_
    refine lv_iadd hx hb dL_law_1320 ?_
    refine va_sld hx hb hX hbl hbA hS (lw_in hv hk1 (by omega) (by omega) (by omega) hL) dL_law_1321 ?_
    refine fx_ti (v := x1) hx1 ?_
    refine tk_ViA (As := [.int x1]) (rest := []) (ci := 12) ⟨hx, hb, hml, hown, htl⟩ hK hG hZ hAZ hS (k_X12_back_hi_x l D cy ld t a0 x1 y0 y5 ht0 (by omega) (by omega) (by omega) (by omega) (by omega)) ⟨hj13, hj15⟩ ⟨callB_of 1 htl (wl_inL mw_1721) rfl rfl rfl (htl _ mw_2) (htl _ mw_1718) hd_yX12_back ⟨(Nat.le_of_ble_eq_true rfl), (Nat.le_of_ble_eq_true rfl)⟩, htl _ mw_1719, htl _ mw_1720⟩ ht0 (by decide) tk_no rfl (fun q h => hge q h.1) rfl hl.1 rfl (Nat.le_of_ble_eq_true rfl) dL_law_1322 ⟨by show cells + 0 ≤ 600000; omega, by show slots + 0 ≤ 7302250; omega⟩ (fun r1 H locs hpo1 hG hS hz9 hq9 => ?_)
    obtain ⟨hp1_0, hj13, hj15⟩ := hpo1
    have hC := jC.call hT.1 hC hq9 (by decide)
    have hKI := jK.call hT hKI hq9 (by decide) (by decide) (by decide)
    have htp := htp.call hq9 (tk_w.no ht_ld26 (by decide))
    have hM := hM.frame (H1 := H) (fun q hq => hq9 q (hM.lt hq) (fun h => hsep q h.1 hq))
    refine lv_pop hx hb dL_law_1325 rfl ?_
    refine lv_aload_n hx hb dL_law_1326 rfl (lv_at hl 1 rfl) ?_
    refine lv_aload_n hx hb dL_law_1327 rfl (lv_at hl 3 rfl) ?_
    refine lv_iload_n hx hb dL_law_1328 rfl (lv_at hl 0 rfl) ?_
    refine lv_iconst (v := 1) hx hb dL_law_1329 (by decide) ?_
    refine lv_iadd hx hb dL_law_1330 ?_
    refine va_sld hx hb hX hbl hbA hS (lw_in hv hk1 (by omega) (by omega) (by omega) hL) dL_law_1331 ?_
    refine fx_ti (v := x1) hx1 ?_
    refine mz_ViA (As := [.int x1]) (rest := []) ⟨hx, hb, hml, hown, htl⟩ hK hM hS (fun q h => hwge q h) (k_X13_back_x l D cy ld ad am hD _ _ _ _ x1 hIF hIG hIR) ⟨callB_of 1 htl (wl_inL mw_1725) rfl rfl rfl (htl _ mw_5) (htl _ mw_1722) hd_yX13_back ⟨(Nat.le_of_ble_eq_true rfl), (Nat.le_of_ble_eq_true rfl)⟩, htl _ mw_1723, htl _ mw_1724⟩ rfl hl.1 rfl (Nat.le_of_ble_eq_true rfl) dL_law_1332 ⟨by show cells + 0 + 0 ≤ 600000; omega, by show slots + 0 + 0 ≤ 7302250; omega⟩ (fun r2 H locs F G R S hpo hM hS hz9 hq9 => ?_)
    have hall := fun (q : Nat) (hq : (t q).1 ≠ 0) => hq9 q (hG.lt hq) (hsep q hq)
    have hG := hG.frame (H1 := H) hall
    have hC := jC.all hT.1 hC hall
    have hKI := jK.all hT hKI hall
    have htp := htp.kept (hall _ (by rw [ht_ld26]; exact Nat.succ_ne_zero _))
    have hj13 := hj13.kept (hall _ (by rw [ht0]; exact Nat.succ_ne_zero _))
    have hj15 := hj15.kept (hall _ (by rw [ht0]; exact Nat.succ_ne_zero _))
    obtain ⟨hIF, hIG, hIR, hfr9, hrr9, hgr9, hp2_0⟩ := hpo
    have hqx := hp2_0.2.2 (Or.inr hs1)
    have hR := hR.rel (rK3.refl hqx.2)
    have hv9 : r1.toInt = r2.toInt := by have h1 := hp1_0; have h2 := hqx.1; omega
    have hKI : jK D ld (R 4) (R 5) H := by rw [hrr9 4 (by decide), hrr9 5 (by decide)]; exact hKI
    have eF13 := (hfr9 13 (by decide)).trans ey0
    have htr : ∀ j : Nat, (j : Int) < y0.toInt → ft j = R 12 j := by rw [hrr9 12 (by decide)]; exact htr
    have eF11 := (hfr9 11 (by decide)).trans ey5
    have hJ9 : lw_J D ld t a0 F R H := ⟨hT, ⟨_, _, _, _, _, _, _, _, _, _, hC, hR⟩, hKI, ⟨_, htp, by rw [eF13]; exact htr⟩, by rw [eF13]; exact hj13, by rw [eF11]; exact hj15⟩
    refine lv_pop hx hb dL_law_1335 rfl ?_
    refine lv_goto (tgt := 1375) hx hb dL_law_1336 (by decide) ?_
    refine W.widen (k := cells + 7) (n := slots + 1106) (by exact Nat.le_add_right _ _) (by exact Nat.le_add_right _ _) ?_
    exact kk t F G R S H locs ls ⟨ht0, hG, hge, hD, hM, ⟨hIF, hIG, hIR⟩, hsep, hwge⟩ hJ9 hS hl
  · refine lv_aload_n hx hb dL_law_1316 rfl (lv_at hl 2 rfl) ?_
    refine lv_aload_n hx hb dL_law_1317 rfl (lv_at hl 3 rfl) ?_
    refine lv_iload_n hx hb dL_law_1318 rfl (lv_at hl 0 rfl) ?_
    refine lv_iconst (v := 1) hx hb dL_law_1319 (by decide) ?_
    refine lv_iadd hx hb dL_law_1320 ?_
    refine va_sld hx hb hX hbl hbA hS (lw_in hv hk1 (by omega) (by omega) (by omega) hL) dL_law_1321 ?_
    refine fx_ti (v := x1) hx1 ?_
    refine tk_ViA (As := [.int x1]) (rest := []) (ci := 12) ⟨hx, hb, hml, hown, htl⟩ hK hG hZ hAZ hS (k_X12_back_lo_x l D cy ld t a0 x1 y0 y5 ht0 (by omega) (by omega) (by omega) (by omega) (by omega)) ⟨hj13, hj15⟩ ⟨callB_of 1 htl (wl_inL mw_1721) rfl rfl rfl (htl _ mw_2) (htl _ mw_1718) hd_yX12_back ⟨(Nat.le_of_ble_eq_true rfl), (Nat.le_of_ble_eq_true rfl)⟩, htl _ mw_1719, htl _ mw_1720⟩ ht0 (by decide) tk_no rfl (fun q h => hge q h.1) rfl hl.1 rfl (Nat.le_of_ble_eq_true rfl) dL_law_1322 ⟨by show cells + 0 ≤ 600000; omega, by show slots + 0 ≤ 7302250; omega⟩ (fun r1 H locs hpo1 hG hS hz9 hq9 => ?_)
    obtain ⟨hp1_0, hj13, hj15⟩ := hpo1
    have hC := jC.call hT.1 hC hq9 (by decide)
    have hKI := jK.call hT hKI hq9 (by decide) (by decide) (by decide)
    have htp := htp.call hq9 (tk_w.no ht_ld26 (by decide))
    have hM := hM.frame (H1 := H) (fun q hq => hq9 q (hM.lt hq) (fun h => hsep q h.1 hq))
    refine lv_pop hx hb dL_law_1325 rfl ?_
    refine lv_aload_n hx hb dL_law_1326 rfl (lv_at hl 1 rfl) ?_
    refine lv_aload_n hx hb dL_law_1327 rfl (lv_at hl 3 rfl) ?_
    refine lv_iload_n hx hb dL_law_1328 rfl (lv_at hl 0 rfl) ?_
    refine lv_iconst (v := 1) hx hb dL_law_1329 (by decide) ?_
    refine lv_iadd hx hb dL_law_1330 ?_
    refine va_sld hx hb hX hbl hbA hS (lw_in hv hk1 (by omega) (by omega) (by omega) hL) dL_law_1331 ?_
    refine fx_ti (v := x1) hx1 ?_
    refine mz_ViA (As := [.int x1]) (rest := []) ⟨hx, hb, hml, hown, htl⟩ hK hM hS (fun q h => hwge q h) (k_X13_back_x l D cy ld ad am hD _ _ _ _ x1 hIF hIG hIR) ⟨callB_of 1 htl (wl_inL mw_1725) rfl rfl rfl (htl _ mw_5) (htl _ mw_1722) hd_yX13_back ⟨(Nat.le_of_ble_eq_true rfl), (Nat.le_of_ble_eq_true rfl)⟩, htl _ mw_1723, htl _ mw_1724⟩ rfl hl.1 rfl (Nat.le_of_ble_eq_true rfl) dL_law_1332 ⟨by show cells + 0 + 0 ≤ 600000; omega, by show slots + 0 + 0 ≤ 7302250; omega⟩ (fun r2 H locs F G R S hpo hM hS hz9 hq9 => ?_)
    have hall := fun (q : Nat) (hq : (t q).1 ≠ 0) => hq9 q (hG.lt hq) (hsep q hq)
    have hG := hG.frame (H1 := H) hall
    have hC := jC.all hT.1 hC hall
    have hKI := jK.all hT hKI hall
    have htp := htp.kept (hall _ (by rw [ht_ld26]; exact Nat.succ_ne_zero _))
    have hj13 := hj13.kept (hall _ (by rw [ht0]; exact Nat.succ_ne_zero _))
    have hj15 := hj15.kept (hall _ (by rw [ht0]; exact Nat.succ_ne_zero _))
    obtain ⟨hIF, hIG, hIR, hfr9, hrr9, hgr9, hp2_0⟩ := hpo
    have hqx := hp2_0.2.2 (Or.inl hs1)
    have hR := hR.rel (rK3.refl hqx.2)
    have hv9 : r1.toInt = r2.toInt := by have h1 := hp1_0; have h2 := hqx.1; omega
    have hKI : jK D ld (R 4) (R 5) H := by rw [hrr9 4 (by decide), hrr9 5 (by decide)]; exact hKI
    have eF13 := (hfr9 13 (by decide)).trans ey0
    have htr : ∀ j : Nat, (j : Int) < y0.toInt → ft j = R 12 j := by rw [hrr9 12 (by decide)]; exact htr
    have eF11 := (hfr9 11 (by decide)).trans ey5
    have hJ9 : lw_J D ld t a0 F R H := ⟨hT, ⟨_, _, _, _, _, _, _, _, _, _, hC, hR⟩, hKI, ⟨_, htp, by rw [eF13]; exact htr⟩, by rw [eF13]; exact hj13, by rw [eF11]; exact hj15⟩
    refine lv_pop hx hb dL_law_1335 rfl ?_
    refine lv_goto (tgt := 1375) hx hb dL_law_1336 (by decide) ?_
    refine W.widen (k := cells + 7) (n := slots + 1106) (by exact Nat.le_add_right _ _) (by exact Nat.le_add_right _ _) ?_
    exact kk t F G R S H locs ls ⟨ht0, hG, hge, hD, hM, ⟨hIF, hIG, hIR⟩, hsep, hwge⟩ hJ9 hS hl
set_option maxHeartbeats 8000000 in
set_option maxRecDepth 100000 in
theorem law_39 {p : Program} {l : Launch} {e : Env} {s : State} {m : MethodId} {below : List Frame} {meth : Method} {c : Code} {b L : Nat} {xs : Nat → Int32} (C0 : lw_At p s m meth c b L xs) (htl : ∀ w ∈ wsA, w.before #[Value.ref b] s = true) {D : va_G} {cy : Nat → ClassId} {ld ad : Nat → Nat} (hK : kk_K D cy ld s) (hZ0 : tk_Z ld (fun _ => (0, 0, 0)) s) {t : tk_T} {a0 am : Nat} {F : Nat → Int32} {G : Nat → Int64} {R : Nat → Nat → Int32} {S : Nat → Nat → Int64} {H : Heap} {locs : List Loc} (hI : lw_I D cy ld t ad a0 am s.heap.size F G R S H) (hJ : lw_J D ld t a0 F R H) (hS : va_S (fun q : Nat => s.heap.size ≤ q) s.heap H locs) (hS0 : s.heap.size ≤ H.size) (hL : L ≤ 3072) {v : Int32} {i : Int} (hv : v.toInt = i) (hi : 0 ≤ i) (hiL : i + 6 ≤ (L : Int)) {cells slots : Nat} (hc : cells + 7 ≤ 600000) (hs : slots + 1106 ≤ 7302250) (ls : Array Slot) (hl : lv_has ls 4 [(3, .int v), (2, .ref am), (1, .ref a0), (0, .ref b)]) (kk : ∀ (t : tk_T) (F : Nat → Int32) (G : Nat → Int64) (R : Nat → Nat → Int32) (S : Nat → Nat → Int64) (H : Heap) (locs : List Loc) (ls : Array Slot), lw_I D cy ld t ad a0 am s.heap.size F G R S H → lw_J D ld t a0 F R H → va_S (fun q : Nat => s.heap.size ≤ q) s.heap H locs → lv_has ls 4 [(3, .int v), (2, .ref am), (1, .ref a0), (0, .ref b)] → W p l e room_1 s m #[Value.ref b] below meth c H locs (cells + 7) (slots + 1106) (lw_Z below #[Value.ref b] s) (F0 m 1375 ls [])) : W p l e room_1 s m #[Value.ref b] below meth c H locs (cells) (slots) (lw_Z below #[Value.ref b] s) (F0 m 1339 ls []) := by
  obtain ⟨hx, hb, hr, hml, hown, hts, hX, hbl, hlocks, hgv⟩ := id C0
  have hown : s.vm.findClass RL = some m.cls := hown
  have hbA : ¬ (fun q : Nat => s.heap.size ≤ q) b := Nat.not_le.mpr hbl
  obtain ⟨ht0, hG, hge, hD, hM, ⟨hIF, hIG, hIR⟩, hsep, hwge⟩ := hI
  have hZ := lw_Z0 hZ0 hge
  have hAZ : ∀ q : Nat, q < s.heap.size → (fun q : Nat => s.heap.size ≤ q) q → (t q).1 ≠ 0 := fun q h1 h2 => absurd h2 (Nat.not_le.mpr h1)
  obtain ⟨hT, ⟨n0, n1, n2, n3, fh, fs, fk, q1, q2, q3, hC, hR⟩, hKI, ⟨ft, htp, htr⟩, hj13, hj15⟩ := hJ
  obtain ⟨⟨e30, e31, e32, e33⟩, ⟨⟨b0, b1⟩, ⟨b2, b3⟩, ⟨b4, b5⟩, b6, b7⟩, -⟩ := id hR
  obtain ⟨y0, ey0⟩ : ∃ z : Int32, F 13 = z := ⟨_, rfl⟩
  have hy0 : 0 ≤ y0.toInt ∧ y0.toInt ≤ 400 := hIF.at ey0
  rw [ey0] at hj13 htr
  obtain ⟨y5, ey5⟩ : ∃ z : Int32, F 11 = z := ⟨_, rfl⟩
  rw [ey5] at hj15
  have hy5 := tk_rng y5
  obtain ⟨ht_ld20, ht_ld70, ht_ld80, ht_ld90, ht_ld100, ht_ld110, ht_ld120⟩ := id hT.1
  obtain ⟨ht_ld24, ht_ld76, ht_ld86, ht_ld96, ht_ld106, ht_ld116, ht_ld126⟩ := id hT.2.1
  obtain ⟨ht_ld25, ht_ld77, ht_ld87, ht_ld97, ht_ld107, ht_ld117, ht_ld127⟩ := id hT.2.2.1
  have ht_ld26 := hT.2.2.2.1
  have ht_ld49 := hT.2.2.2.2
  obtain ⟨x1, hx1⟩ : ∃ z, xs (v + 1 : Int32).toNatClampNeg = z := ⟨_, rfl⟩
  have hk1 : (1 : Int32).toInt = 1 := by decide
  refine lv_aload_n hx hb dL_law_1339 rfl (lv_at hl 2 rfl) ?_
  refine lv_aload_n hx hb dL_law_1340 rfl (lv_at hl 3 rfl) ?_
  refine lv_iload_n hx hb dL_law_1341 rfl (lv_at hl 0 rfl) ?_
  refine lv_iconst (v := 1) hx hb dL_law_1342 (by decide) ?_
  refine lv_iadd hx hb dL_law_1343 ?_
  refine va_sld hx hb hX hbl hbA hS (lw_in hv hk1 (by omega) (by omega) (by omega) hL) dL_law_1344 ?_
  refine fx_ti (v := x1) hx1 ?_
  refine tk_ViA (As := [.int x1]) (rest := []) (ci := 12) ⟨hx, hb, hml, hown, htl⟩ hK hG hZ hAZ hS (k_X12_count l D cy ld t a0 x1 ht0) trivial ⟨callB_of 1 htl (wl_inL mw_1729) rfl rfl rfl (htl _ mw_2) (htl _ mw_1726) hd_yX12_count ⟨(Nat.le_of_ble_eq_true rfl), (Nat.le_of_ble_eq_true rfl)⟩, htl _ mw_1727, htl _ mw_1728⟩ ht0 (by decide) tk_no rfl (fun q h => hge q h.1) rfl hl.1 rfl (Nat.le_of_ble_eq_true rfl) dL_law_1345 ⟨by show cells + 0 ≤ 600000; omega, by show slots + 0 ≤ 7302250; omega⟩ (fun r1 H locs hpo1 hG hS hz9 hq9 => ?_)
  have hC := jC.call hT.1 hC hq9 (by decide)
  have hKI := jK.call hT hKI hq9 (by decide) (by decide) (by decide)
  have htp := htp.call hq9 (tk_w.no ht_ld26 (by decide))
  have hj13 := hj13.call hq9 (tk_w.no ht0 (by decide))
  have hj15 := hj15.call hq9 (tk_w.no ht0 (by decide))
  have hM := hM.frame (H1 := H) (fun q hq => hq9 q (hM.lt hq) (fun h => hsep q h.1 hq))
  refine lv_pop hx hb dL_law_1348 rfl ?_
  refine lv_aload_n hx hb dL_law_1349 rfl (lv_at hl 1 rfl) ?_
  refine lv_aload_n hx hb dL_law_1350 rfl (lv_at hl 3 rfl) ?_
  refine lv_iload_n hx hb dL_law_1351 rfl (lv_at hl 0 rfl) ?_
  refine lv_iconst (v := 1) hx hb dL_law_1352 (by decide) ?_
  refine lv_iadd hx hb dL_law_1353 ?_
  refine va_sld hx hb hX hbl hbA hS (lw_in hv hk1 (by omega) (by omega) (by omega) hL) dL_law_1354 ?_
  refine fx_ti (v := x1) hx1 ?_
  refine mz_ViA (As := [.int x1]) (rest := []) ⟨hx, hb, hml, hown, htl⟩ hK hM hS (fun q h => hwge q h) (k_X13_count l D cy ld ad am hD _ _ _ _ x1 hIF hIG hIR) ⟨callB_of 1 htl (wl_inL mw_1736) rfl rfl rfl (htl _ mw_5) (htl _ mw_1733) hd_yX13_count ⟨(Nat.le_of_ble_eq_true rfl), (Nat.le_of_ble_eq_true rfl)⟩, htl _ mw_1734, htl _ mw_1735⟩ rfl hl.1 rfl (Nat.le_of_ble_eq_true rfl) dL_law_1355 ⟨by show cells + 0 + 0 ≤ 600000; omega, by show slots + 0 + 0 ≤ 7302250; omega⟩ (fun r2 H locs F G R S hpo hM hS hz9 hq9 => ?_)
  have hall := fun (q : Nat) (hq : (t q).1 ≠ 0) => hq9 q (hG.lt hq) (hsep q hq)
  have hG := hG.frame (H1 := H) hall
  have hC := jC.all hT.1 hC hall
  have hKI := jK.all hT hKI hall
  have htp := htp.kept (hall _ (by rw [ht_ld26]; exact Nat.succ_ne_zero _))
  have hj13 := hj13.kept (hall _ (by rw [ht0]; exact Nat.succ_ne_zero _))
  have hj15 := hj15.kept (hall _ (by rw [ht0]; exact Nat.succ_ne_zero _))
  obtain ⟨hIF, hIG, hIR, hfr9, hrr9, hgr9⟩ := hpo
  have hR := hR.rel (rK3.refl (hrr9 3 (by decide)))
  have hKI : jK D ld (R 4) (R 5) H := by rw [hrr9 4 (by decide), hrr9 5 (by decide)]; exact hKI
  have eF13 := (hfr9 13 (by decide)).trans ey0
  have htr : ∀ j : Nat, (j : Int) < y0.toInt → ft j = R 12 j := by rw [hrr9 12 (by decide)]; exact htr
  have eF11 := (hfr9 11 (by decide)).trans ey5
  have hJ9 : lw_J D ld t a0 F R H := ⟨hT, ⟨_, _, _, _, _, _, _, _, _, _, hC, hR⟩, hKI, ⟨_, htp, by rw [eF13]; exact htr⟩, by rw [eF13]; exact hj13, by rw [eF11]; exact hj15⟩
  refine lv_pop hx hb dL_law_1358 rfl ?_
  refine lv_goto (tgt := 1375) hx hb dL_law_1359 (by decide) ?_
  refine W.widen (k := cells + 7) (n := slots + 1106) (by exact Nat.le_add_right _ _) (by exact Nat.le_add_right _ _) ?_
  exact kk t F G R S H locs ls ⟨ht0, hG, hge, hD, hM, ⟨hIF, hIG, hIR⟩, hsep, hwge⟩ hJ9 hS hl
set_option maxHeartbeats 8000000 in
set_option maxRecDepth 100000 in
theorem law_40 {p : Program} {l : Launch} {e : Env} {s : State} {m : MethodId} {below : List Frame} {meth : Method} {c : Code} {b L : Nat} {xs : Nat → Int32} (C0 : lw_At p s m meth c b L xs) (htl : ∀ w ∈ wsA, w.before #[Value.ref b] s = true) {D : va_G} {cy : Nat → ClassId} {ld ad : Nat → Nat} (hK : kk_K D cy ld s) (hZ0 : tk_Z ld (fun _ => (0, 0, 0)) s) {t : tk_T} {a0 am : Nat} {F : Nat → Int32} {G : Nat → Int64} {R : Nat → Nat → Int32} {S : Nat → Nat → Int64} {H : Heap} {locs : List Loc} (hI : lw_I D cy ld t ad a0 am s.heap.size F G R S H) (hJ : lw_J D ld t a0 F R H) (hS : va_S (fun q : Nat => s.heap.size ≤ q) s.heap H locs) (hS0 : s.heap.size ≤ H.size) (hL : L ≤ 3072) {v : Int32} {i : Int} (hv : v.toInt = i) (hi : 0 ≤ i) (hiL : i + 6 ≤ (L : Int)) {cells slots : Nat} (hc : cells + 7 ≤ 600000) (hs : slots + 1106 ≤ 7302250) (ls : Array Slot) (hl : lv_has ls 4 [(3, .int v), (2, .ref am), (1, .ref a0), (0, .ref b)]) (kk : ∀ (t : tk_T) (F : Nat → Int32) (G : Nat → Int64) (R : Nat → Nat → Int32) (S : Nat → Nat → Int64) (H : Heap) (locs : List Loc) (ls : Array Slot), lw_I D cy ld t ad a0 am s.heap.size F G R S H → lw_J D ld t a0 F R H → va_S (fun q : Nat => s.heap.size ≤ q) s.heap H locs → lv_has ls 4 [(3, .int v), (2, .ref am), (1, .ref a0), (0, .ref b)] → W p l e room_1 s m #[Value.ref b] below meth c H locs (cells + 7) (slots + 1106) (lw_Z below #[Value.ref b] s) (F0 m 1375 ls [])) : W p l e room_1 s m #[Value.ref b] below meth c H locs (cells) (slots) (lw_Z below #[Value.ref b] s) (F0 m 1362 ls []) := by
  obtain ⟨hx, hb, hr, hml, hown, hts, hX, hbl, hlocks, hgv⟩ := id C0
  have hown : s.vm.findClass RL = some m.cls := hown
  have hbA : ¬ (fun q : Nat => s.heap.size ≤ q) b := Nat.not_le.mpr hbl
  obtain ⟨ht0, hG, hge, hD, hM, ⟨hIF, hIG, hIR⟩, hsep, hwge⟩ := hI
  have hZ := lw_Z0 hZ0 hge
  have hAZ : ∀ q : Nat, q < s.heap.size → (fun q : Nat => s.heap.size ≤ q) q → (t q).1 ≠ 0 := fun q h1 h2 => absurd h2 (Nat.not_le.mpr h1)
  obtain ⟨hT, ⟨n0, n1, n2, n3, fh, fs, fk, q1, q2, q3, hC, hR⟩, hKI, ⟨ft, htp, htr⟩, hj13, hj15⟩ := hJ
  obtain ⟨⟨e30, e31, e32, e33⟩, ⟨⟨b0, b1⟩, ⟨b2, b3⟩, ⟨b4, b5⟩, b6, b7⟩, -⟩ := id hR
  obtain ⟨y0, ey0⟩ : ∃ z : Int32, F 13 = z := ⟨_, rfl⟩
  have hy0 : 0 ≤ y0.toInt ∧ y0.toInt ≤ 400 := hIF.at ey0
  rw [ey0] at hj13 htr
  obtain ⟨y5, ey5⟩ : ∃ z : Int32, F 11 = z := ⟨_, rfl⟩
  rw [ey5] at hj15
  have hy5 := tk_rng y5
  obtain ⟨ht_ld20, ht_ld70, ht_ld80, ht_ld90, ht_ld100, ht_ld110, ht_ld120⟩ := id hT.1
  obtain ⟨ht_ld24, ht_ld76, ht_ld86, ht_ld96, ht_ld106, ht_ld116, ht_ld126⟩ := id hT.2.1
  obtain ⟨ht_ld25, ht_ld77, ht_ld87, ht_ld97, ht_ld107, ht_ld117, ht_ld127⟩ := id hT.2.2.1
  have ht_ld26 := hT.2.2.2.1
  have ht_ld49 := hT.2.2.2.2
  refine lv_aload_n hx hb dL_law_1362 rfl (lv_at hl 2 rfl) ?_
  refine tk_ViA (As := []) (rest := []) (ci := 12) ⟨hx, hb, hml, hown, htl⟩ hK hG hZ hAZ hS (k_X12_status l D cy ld t a0 ht0) trivial ⟨callB_of 0 htl (wl_inL mw_1742) rfl rfl rfl (htl _ mw_2) (htl _ mw_1739) hd_yX12_status ⟨(Nat.le_of_ble_eq_true rfl), (Nat.le_of_ble_eq_true rfl)⟩, htl _ mw_1740, htl _ mw_1741⟩ ht0 (by decide) tk_no rfl (fun q h => hge q h.1) rfl hl.1 rfl (Nat.le_of_ble_eq_true rfl) dL_law_1363 ⟨by show cells + 0 ≤ 600000; omega, by show slots + 0 ≤ 7302250; omega⟩ (fun r1 H locs hpo1 hG hS hz9 hq9 => ?_)
  have hC := jC.call hT.1 hC hq9 (by decide)
  have hKI := jK.call hT hKI hq9 (by decide) (by decide) (by decide)
  have htp := htp.call hq9 (tk_w.no ht_ld26 (by decide))
  have hj13 := hj13.call hq9 (tk_w.no ht0 (by decide))
  have hj15 := hj15.call hq9 (tk_w.no ht0 (by decide))
  have hM := hM.frame (H1 := H) (fun q hq => hq9 q (hM.lt hq) (fun h => hsep q h.1 hq))
  refine lv_pop hx hb dL_law_1366 rfl ?_
  refine lv_aload_n hx hb dL_law_1367 rfl (lv_at hl 1 rfl) ?_
  refine mz_ViA (As := []) (rest := []) ⟨hx, hb, hml, hown, htl⟩ hK hM hS (fun q h => hwge q h) (k_X13_status l D cy ld ad am hD _ _ _ _ hIF hIG hIR) ⟨callB_of 0 htl (wl_inL mw_1746) rfl rfl rfl (htl _ mw_5) (htl _ mw_1743) hd_yX13_status ⟨(Nat.le_of_ble_eq_true rfl), (Nat.le_of_ble_eq_true rfl)⟩, htl _ mw_1744, htl _ mw_1745⟩ rfl hl.1 rfl (Nat.le_of_ble_eq_true rfl) dL_law_1368 ⟨by show cells + 0 + 0 ≤ 600000; omega, by show slots + 0 + 0 ≤ 7302250; omega⟩ (fun r2 H locs F G R S hpo hM hS hz9 hq9 => ?_)
  have hall := fun (q : Nat) (hq : (t q).1 ≠ 0) => hq9 q (hG.lt hq) (hsep q hq)
  have hG := hG.frame (H1 := H) hall
  have hC := jC.all hT.1 hC hall
  have hKI := jK.all hT hKI hall
  have htp := htp.kept (hall _ (by rw [ht_ld26]; exact Nat.succ_ne_zero _))
  have hj13 := hj13.kept (hall _ (by rw [ht0]; exact Nat.succ_ne_zero _))
  have hj15 := hj15.kept (hall _ (by rw [ht0]; exact Nat.succ_ne_zero _))
  obtain ⟨hIF, hIG, hIR, hfr9, hrr9, hgr9⟩ := hpo
  have hR := hR.rel (rK3.refl (hrr9 3 (by decide)))
  have hKI : jK D ld (R 4) (R 5) H := by rw [hrr9 4 (by decide), hrr9 5 (by decide)]; exact hKI
  have eF13 := (hfr9 13 (by decide)).trans ey0
  have htr : ∀ j : Nat, (j : Int) < y0.toInt → ft j = R 12 j := by rw [hrr9 12 (by decide)]; exact htr
  have eF11 := (hfr9 11 (by decide)).trans ey5
  have hJ9 : lw_J D ld t a0 F R H := ⟨hT, ⟨_, _, _, _, _, _, _, _, _, _, hC, hR⟩, hKI, ⟨_, htp, by rw [eF13]; exact htr⟩, by rw [eF13]; exact hj13, by rw [eF11]; exact hj15⟩
  refine lv_pop hx hb dL_law_1371 rfl ?_
  refine lv_goto (tgt := 1375) hx hb dL_law_1372 (by decide) ?_
  refine W.widen (k := cells + 7) (n := slots + 1106) (by exact Nat.le_add_right _ _) (by exact Nat.le_add_right _ _) ?_
  exact kk t F G R S H locs ls ⟨ht0, hG, hge, hD, hM, ⟨hIF, hIG, hIR⟩, hsep, hwge⟩ hJ9 hS hl
