set_option maxHeartbeats 8000000 in
set_option maxRecDepth 100000 in
theorem law_14 {p : Program} {l : Launch} {e : Env} {s : State} {m : MethodId} {below : List Frame} {meth : Method} {c : Code} {b L : Nat} {xs : Nat → Int32} (C0 : lw_At p s m meth c b L xs) (htl : ∀ w ∈ wsA, w.before #[Value.ref b] s = true) {D : va_G} {cy : Nat → ClassId} {ld ad : Nat → Nat} (hK : kk_K D cy ld s) (hZ0 : tk_Z ld (fun _ => (0, 0, 0)) s) {t : tk_T} {a0 am : Nat} {F : Nat → Int32} {G : Nat → Int64} {R : Nat → Nat → Int32} {S : Nat → Nat → Int64} {H : Heap} {locs : List Loc} (hI : lw_I D cy ld t ad a0 am s.heap.size F G R S H) (hJ : lw_J D ld t a0 F R H) (hS : va_S (fun q : Nat => s.heap.size ≤ q) s.heap H locs) (hS0 : s.heap.size ≤ H.size) (hL : L ≤ 3072) {v : Int32} {i : Int} (hv : v.toInt = i) (hi : 0 ≤ i) (hiL : i + 6 ≤ (L : Int)) {cells slots : Nat} (hc : cells + 7 ≤ 600000) (hs : slots + 1106 ≤ 7302250) (ls : Array Slot) (hl : lv_has ls 4 [(3, .int v), (2, .ref am), (1, .ref a0), (0, .ref b)]) (kk : ∀ (t : tk_T) (F : Nat → Int32) (G : Nat → Int64) (R : Nat → Nat → Int32) (S : Nat → Nat → Int64) (H : Heap) (locs : List Loc) (ls : Array Slot), lw_I D cy ld t ad a0 am s.heap.size F G R S H → lw_J D ld t a0 F R H → va_S (fun q : Nat => s.heap.size ≤ q) s.heap H locs → lv_has ls 4 [(3, .int v), (2, .ref am), (1, .ref a0), (0, .ref b)] → W p l e room_1 s m #[Value.ref b] below meth c H locs (cells + 7) (slots + 1106) (lw_Z below #[Value.ref b] s) (F0 m 1375 ls [])) : W p l e room_1 s m #[Value.ref b] below meth c H locs (cells) (slots) (lw_Z below #[Value.ref b] s) (F0 m 644 ls []) := by
  obtain ⟨hx, hb, hr, hml, hown, hts, hX, hbl, hlocks, hgv⟩ := id C0
  have hown : s.vm.findClass RL = some m.cls := hown
  have hbA : ¬ (fun q : Nat => s.heap.size ≤ q) b := Nat.not_le.mpr hbl
  obtain ⟨ht0, hG, hge, hD, hM, ⟨hIF, hIG, hIR⟩, hsep, hwge⟩ := hI
  have hZ := lw_Z0 hZ0 hge
  have hAZ : ∀ q : Nat, q < s.heap.size → (fun q : Nat => s.heap.size ≤ q) q → (t q).1 ≠ 0 := fun q h1 h2 => absurd h2 (Nat.not_le.mpr h1)
  obtain ⟨hT, ⟨n0, n1, n2, n3, fh, fs, fk, q1, q2, q3, hC, hR⟩, hKI, ⟨ft, htp, htr⟩, hj13, hj15⟩ := hJ
  obtain ⟨⟨e30, e31, e32, e33⟩, ⟨⟨b0, b1⟩, ⟨b2, b3⟩, ⟨b4, b5⟩, b6, b7⟩, -⟩ := id hR
  obtain ⟨y0, ey0⟩ : ∃ z : Int32, F 13 = z := ⟨_, rfl⟩
  have hy0 : 0 ≤ y0.toInt ∧ y0.toInt ≤ 400 := hIF.at ey0
  rw [ey0] at hj13 htr
  obtain ⟨y5, ey5⟩ : ∃ z : Int32, F 11 = z := ⟨_, rfl⟩
  rw [ey5] at hj15
  have hy5 := tk_rng y5
  obtain ⟨ht_ld20, ht_ld70, ht_ld80, ht_ld90, ht_ld100, ht_ld110, ht_ld120⟩ := id hT.1
  obtain ⟨ht_ld24, ht_ld76, ht_ld86, ht_ld96, ht_ld106, ht_ld116, ht_ld126⟩ := id hT.2.1
  obtain ⟨ht_ld25, ht_ld77, ht_ld87, ht_ld97, ht_ld107, ht_ld117, ht_ld127⟩ := id hT.2.2.1
  have ht_ld26 := hT.2.2.2.1
  have ht_ld49 := hT.2.2.2.2
  refine lv_aload_n hx hb dL_law_644 rfl (lv_at hl 2 rfl) ?_
  refine tk_ViA (As := []) (rest := []) (ci := 12) ⟨hx, hb, hml, hown, htl⟩ hK hG hZ hAZ hS (k_X12_fault l D cy ld t a0 ht0) trivial ⟨callB_of 0 htl (wl_inL mw_1166) rfl rfl rfl (htl _ mw_2) (htl _ mw_1163) hd_yX12_fault ⟨(Nat.le_of_ble_eq_true rfl), (Nat.le_of_ble_eq_true rfl)⟩, htl _ mw_1164, htl _ mw_1165⟩ ht0 (by decide) tk_no rfl (fun q h => hge q h.1) rfl hl.1 rfl (Nat.le_of_ble_eq_true rfl) dL_law_645 ⟨by show cells + 0 ≤ 600000; omega, by show slots + 0 ≤ 7302250; omega⟩ (fun r1 H locs hpo1 hG hS hz9 hq9 => ?_)
  have hC := jC.call hT.1 hC hq9 (by decide)
  have hKI := jK.call hT hKI hq9 (by decide) (by decide) (by decide)
  have htp := htp.call hq9 (tk_w.no ht_ld26 (by decide))
  have hj13 := hj13.call hq9 (tk_w.no ht0 (by decide))
  have hj15 := hj15.call hq9 (tk_w.no ht0 (by decide))
  have hM := hM.frame (H1 := H) (fun q hq => hq9 q (hM.lt hq) (fun h => hsep q h.1 hq))
  refine lv_pop hx hb dL_law_648 rfl ?_
  refine lv_aload_n hx hb dL_law_649 rfl (lv_at hl 1 rfl) ?_
  refine mz_ViA (As := []) (rest := []) ⟨hx, hb, hml, hown, htl⟩ hK hM hS (fun q h => hwge q h) (k_X13_fault l D cy ld ad am hD _ _ _ _ hIF hIG hIR) ⟨callB_of 0 htl (wl_inL mw_1170) rfl rfl rfl (htl _ mw_5) (htl _ mw_1167) hd_yX13_fault ⟨(Nat.le_of_ble_eq_true rfl), (Nat.le_of_ble_eq_true rfl)⟩, htl _ mw_1168, htl _ mw_1169⟩ rfl hl.1 rfl (Nat.le_of_ble_eq_true rfl) dL_law_650 ⟨by show cells + 0 + 0 ≤ 600000; omega, by show slots + 0 + 0 ≤ 7302250; omega⟩ (fun r2 H locs F G R S hpo hM hS hz9 hq9 => ?_)
  have hall := fun (q : Nat) (hq : (t q).1 ≠ 0) => hq9 q (hG.lt hq) (hsep q hq)
  have hG := hG.frame (H1 := H) hall
  have hC := jC.all hT.1 hC hall
  have hKI := jK.all hT hKI hall
  have htp := htp.kept (hall _ (by rw [ht_ld26]; exact Nat.succ_ne_zero _))
  have hj13 := hj13.kept (hall _ (by rw [ht0]; exact Nat.succ_ne_zero _))
  have hj15 := hj15.kept (hall _ (by rw [ht0]; exact Nat.succ_ne_zero _))
  obtain ⟨hIF, hIG, hIR, hfr9, hrr9, hgr9⟩ := hpo
  have hR := hR.rel (rK3.refl (hrr9 3 (by decide)))
  have hKI : jK D ld (R 4) (R 5) H := by rw [hrr9 4 (by decide), hrr9 5 (by decide)]; exact hKI
  have eF13 := (hfr9 13 (by decide)).trans ey0
  have htr : ∀ j : Nat, (j : Int) < y0.toInt → ft j = R 12 j := by rw [hrr9 12 (by decide)]; exact htr
  have eF11 := (hfr9 11 (by decide)).trans ey5
  have hJ9 : lw_J D ld t a0 F R H := ⟨hT, ⟨_, _, _, _, _, _, _, _, _, _, hC, hR⟩, hKI, ⟨_, htp, by rw [eF13]; exact htr⟩, by rw [eF13]; exact hj13, by rw [eF11]; exact hj15⟩
  refine lv_pop hx hb dL_law_653 rfl ?_
  refine lv_goto (tgt := 1375) hx hb dL_law_654 (by decide) ?_
  refine W.widen (k := cells + 7) (n := slots + 1106) (by exact Nat.le_add_right _ _) (by exact Nat.le_add_right _ _) ?_
  exact kk t F G R S H locs ls ⟨ht0, hG, hge, hD, hM, ⟨hIF, hIG, hIR⟩, hsep, hwge⟩ hJ9 hS hl
set_option maxHeartbeats 8000000 in
set_option maxRecDepth 100000 in
theorem law_15 {p : Program} {l : Launch} {e : Env} {s : State} {m : MethodId} {below : List Frame} {meth : Method} {c : Code} {b L : Nat} {xs : Nat → Int32} (C0 : lw_At p s m meth c b L xs) (htl : ∀ w ∈ wsA, w.before #[Value.ref b] s = true) {D : va_G} {cy : Nat → ClassId} {ld ad : Nat → Nat} (hK : kk_K D cy ld s) (hZ0 : tk_Z ld (fun _ => (0, 0, 0)) s) {t : tk_T} {a0 am : Nat} {F : Nat → Int32} {G : Nat → Int64} {R : Nat → Nat → Int32} {S : Nat → Nat → Int64} {H : Heap} {locs : List Loc} (hI : lw_I D cy ld t ad a0 am s.heap.size F G R S H) (hJ : lw_J D ld t a0 F R H) (hS : va_S (fun q : Nat => s.heap.size ≤ q) s.heap H locs) (hS0 : s.heap.size ≤ H.size) (hL : L ≤ 3072) {v : Int32} {i : Int} (hv : v.toInt = i) (hi : 0 ≤ i) (hiL : i + 6 ≤ (L : Int)) {cells slots : Nat} (hc : cells + 7 ≤ 600000) (hs : slots + 1106 ≤ 7302250) (ls : Array Slot) (hl : lv_has ls 4 [(3, .int v), (2, .ref am), (1, .ref a0), (0, .ref b)]) (kk : ∀ (t : tk_T) (F : Nat → Int32) (G : Nat → Int64) (R : Nat → Nat → Int32) (S : Nat → Nat → Int64) (H : Heap) (locs : List Loc) (ls : Array Slot), lw_I D cy ld t ad a0 am s.heap.size F G R S H → lw_J D ld t a0 F R H → va_S (fun q : Nat => s.heap.size ≤ q) s.heap H locs → lv_has ls 4 [(3, .int v), (2, .ref am), (1, .ref a0), (0, .ref b)] → W p l e room_1 s m #[Value.ref b] below meth c H locs (cells + 7) (slots + 1106) (lw_Z below #[Value.ref b] s) (F0 m 1375 ls [])) : W p l e room_1 s m #[Value.ref b] below meth c H locs (cells) (slots) (lw_Z below #[Value.ref b] s) (F0 m 657 ls []) := by
  obtain ⟨hx, hb, hr, hml, hown, hts, hX, hbl, hlocks, hgv⟩ := id C0
  have hown : s.vm.findClass RL = some m.cls := hown
  have hbA : ¬ (fun q : Nat => s.heap.size ≤ q) b := Nat.not_le.mpr hbl
  obtain ⟨ht0, hG, hge, hD, hM, ⟨hIF, hIG, hIR⟩, hsep, hwge⟩ := hI
  have hZ := lw_Z0 hZ0 hge
  have hAZ : ∀ q : Nat, q < s.heap.size → (fun q : Nat => s.heap.size ≤ q) q → (t q).1 ≠ 0 := fun q h1 h2 => absurd h2 (Nat.not_le.mpr h1)
  obtain ⟨hT, ⟨n0, n1, n2, n3, fh, fs, fk, q1, q2, q3, hC, hR⟩, hKI, ⟨ft, htp, htr⟩, hj13, hj15⟩ := hJ
  obtain ⟨⟨e30, e31, e32, e33⟩, ⟨⟨b0, b1⟩, ⟨b2, b3⟩, ⟨b4, b5⟩, b6, b7⟩, -⟩ := id hR
  obtain ⟨y0, ey0⟩ : ∃ z : Int32, F 13 = z := ⟨_, rfl⟩
  have hy0 : 0 ≤ y0.toInt ∧ y0.toInt ≤ 400 := hIF.at ey0
  rw [ey0] at hj13 htr
  obtain ⟨y5, ey5⟩ : ∃ z : Int32, F 11 = z := ⟨_, rfl⟩
  rw [ey5] at hj15
  have hy5 := tk_rng y5
  obtain ⟨ht_ld20, ht_ld70, ht_ld80, ht_ld90, ht_ld100, ht_ld110, ht_ld120⟩ := id hT.1
  obtain ⟨ht_ld24, ht_ld76, ht_ld86, ht_ld96, ht_ld106, ht_ld116, ht_ld126⟩ := id hT.2.1
  obtain ⟨ht_ld25, ht_ld77, ht_ld87, ht_ld97, ht_ld107, ht_ld117, ht_ld127⟩ := id hT.2.2.1
  have ht_ld26 := hT.2.2.2.1
  have ht_ld49 := hT.2.2.2.2
  refine lv_aload_n hx hb dL_law_657 rfl (lv_at hl 2 rfl) ?_
  refine tk_ViA (As := []) (rest := []) (ci := 12) ⟨hx, hb, hml, hown, htl⟩ hK hG hZ hAZ hS (k_X12_stopped l D cy ld t a0 ht0) trivial ⟨callB_of 0 htl (wl_inL mw_1174) rfl rfl rfl (htl _ mw_2) (htl _ mw_1171) hd_yX12_stopped ⟨(Nat.le_of_ble_eq_true rfl), (Nat.le_of_ble_eq_true rfl)⟩, htl _ mw_1172, htl _ mw_1173⟩ ht0 (by decide) tk_no rfl (fun q h => hge q h.1) rfl hl.1 rfl (Nat.le_of_ble_eq_true rfl) dL_law_658 ⟨by show cells + 0 ≤ 600000; omega, by show slots + 0 ≤ 7302250; omega⟩ (fun r1 H locs hpo1 hG hS hz9 hq9 => ?_)
  have hC := jC.call hT.1 hC hq9 (by decide)
  have hKI := jK.call hT hKI hq9 (by decide) (by decide) (by decide)
  have htp := htp.call hq9 (tk_w.no ht_ld26 (by decide))
  have hj13 := hj13.call hq9 (tk_w.no ht0 (by decide))
  have hj15 := hj15.call hq9 (tk_w.no ht0 (by decide))
  have hM := hM.frame (H1 := H) (fun q hq => hq9 q (hM.lt hq) (fun h => hsep q h.1 hq))
  refine lv_pop hx hb dL_law_661 rfl ?_
  refine lv_aload_n hx hb dL_law_662 rfl (lv_at hl 1 rfl) ?_
  refine mz_ViA (As := []) (rest := []) ⟨hx, hb, hml, hown, htl⟩ hK hM hS (fun q h => hwge q h) (k_X13_stopped l D cy ld ad am hD _ _ _ _ hIF hIG hIR) ⟨callB_of 0 htl (wl_inL mw_1178) rfl rfl rfl (htl _ mw_5) (htl _ mw_1175) hd_yX13_stopped ⟨(Nat.le_of_ble_eq_true rfl), (Nat.le_of_ble_eq_true rfl)⟩, htl _ mw_1176, htl _ mw_1177⟩ rfl hl.1 rfl (Nat.le_of_ble_eq_true rfl) dL_law_663 ⟨by show cells + 0 + 0 ≤ 600000; omega, by show slots + 0 + 0 ≤ 7302250; omega⟩ (fun r2 H locs F G R S hpo hM hS hz9 hq9 => ?_)
  have hall := fun (q : Nat) (hq : (t q).1 ≠ 0) => hq9 q (hG.lt hq) (hsep q hq)
  have hG := hG.frame (H1 := H) hall
  have hC := jC.all hT.1 hC hall
  have hKI := jK.all hT hKI hall
  have htp := htp.kept (hall _ (by rw [ht_ld26]; exact Nat.succ_ne_zero _))
  have hj13 := hj13.kept (hall _ (by rw [ht0]; exact Nat.succ_ne_zero _))
  have hj15 := hj15.kept (hall _ (by rw [ht0]; exact Nat.succ_ne_zero _))
  obtain ⟨hIF, hIG, hIR, hfr9, hrr9, hgr9⟩ := hpo
  have hR := hR.rel (rK3.refl (hrr9 3 (by decide)))
  have hKI : jK D ld (R 4) (R 5) H := by rw [hrr9 4 (by decide), hrr9 5 (by decide)]; exact hKI
  have eF13 := (hfr9 13 (by decide)).trans ey0
  have htr : ∀ j : Nat, (j : Int) < y0.toInt → ft j = R 12 j := by rw [hrr9 12 (by decide)]; exact htr
  have eF11 := (hfr9 11 (by decide)).trans ey5
  have hJ9 : lw_J D ld t a0 F R H := ⟨hT, ⟨_, _, _, _, _, _, _, _, _, _, hC, hR⟩, hKI, ⟨_, htp, by rw [eF13]; exact htr⟩, by rw [eF13]; exact hj13, by rw [eF11]; exact hj15⟩
  refine lv_pop hx hb dL_law_666 rfl ?_
  refine lv_goto (tgt := 1375) hx hb dL_law_667 (by decide) ?_
  refine W.widen (k := cells + 7) (n := slots + 1106) (by exact Nat.le_add_right _ _) (by exact Nat.le_add_right _ _) ?_
  exact kk t F G R S H locs ls ⟨ht0, hG, hge, hD, hM, ⟨hIF, hIG, hIR⟩, hsep, hwge⟩ hJ9 hS hl
set_option maxHeartbeats 8000000 in
set_option maxRecDepth 100000 in
theorem law_16 {p : Program} {l : Launch} {e : Env} {s : State} {m : MethodId} {below : List Frame} {meth : Method} {c : Code} {b L : Nat} {xs : Nat → Int32} (C0 : lw_At p s m meth c b L xs) (htl : ∀ w ∈ wsA, w.before #[Value.ref b] s = true) {D : va_G} {cy : Nat → ClassId} {ld ad : Nat → Nat} (hK : kk_K D cy ld s) (hZ0 : tk_Z ld (fun _ => (0, 0, 0)) s) {t : tk_T} {a0 am : Nat} {F : Nat → Int32} {G : Nat → Int64} {R : Nat → Nat → Int32} {S : Nat → Nat → Int64} {H : Heap} {locs : List Loc} (hI : lw_I D cy ld t ad a0 am s.heap.size F G R S H) (hJ : lw_J D ld t a0 F R H) (hS : va_S (fun q : Nat => s.heap.size ≤ q) s.heap H locs) (hS0 : s.heap.size ≤ H.size) (hL : L ≤ 3072) {v : Int32} {i : Int} (hv : v.toInt = i) (hi : 0 ≤ i) (hiL : i + 6 ≤ (L : Int)) {cells slots : Nat} (hc : cells + 7 ≤ 600000) (hs : slots + 1106 ≤ 7302250) (ls : Array Slot) (hl : lv_has ls 4 [(3, .int v), (2, .ref am), (1, .ref a0), (0, .ref b)]) (kk : ∀ (t : tk_T) (F : Nat → Int32) (G : Nat → Int64) (R : Nat → Nat → Int32) (S : Nat → Nat → Int64) (H : Heap) (locs : List Loc) (ls : Array Slot), lw_I D cy ld t ad a0 am s.heap.size F G R S H → lw_J D ld t a0 F R H → va_S (fun q : Nat => s.heap.size ≤ q) s.heap H locs → lv_has ls 4 [(3, .int v), (2, .ref am), (1, .ref a0), (0, .ref b)] → W p l e room_1 s m #[Value.ref b] below meth c H locs (cells + 7) (slots + 1106) (lw_Z below #[Value.ref b] s) (F0 m 1375 ls [])) : W p l e room_1 s m #[Value.ref b] below meth c H locs (cells) (slots) (lw_Z below #[Value.ref b] s) (F0 m 670 ls []) := by
  obtain ⟨hx, hb, hr, hml, hown, hts, hX, hbl, hlocks, hgv⟩ := id C0
  have hown : s.vm.findClass RL = some m.cls := hown
  have hbA : ¬ (fun q : Nat => s.heap.size ≤ q) b := Nat.not_le.mpr hbl
  obtain ⟨ht0, hG, hge, hD, hM, ⟨hIF, hIG, hIR⟩, hsep, hwge⟩ := hI
  have hZ := lw_Z0 hZ0 hge
  have hAZ : ∀ q : Nat, q < s.heap.size → (fun q : Nat => s.heap.size ≤ q) q → (t q).1 ≠ 0 := fun q h1 h2 => absurd h2 (Nat.not_le.mpr h1)
  obtain ⟨hT, ⟨n0, n1, n2, n3, fh, fs, fk, q1, q2, q3, hC, hR⟩, hKI, ⟨ft, htp, htr⟩, hj13, hj15⟩ := hJ
  obtain ⟨⟨e30, e31, e32, e33⟩, ⟨⟨b0, b1⟩, ⟨b2, b3⟩, ⟨b4, b5⟩, b6, b7⟩, -⟩ := id hR
  obtain ⟨y0, ey0⟩ : ∃ z : Int32, F 13 = z := ⟨_, rfl⟩
  have hy0 : 0 ≤ y0.toInt ∧ y0.toInt ≤ 400 := hIF.at ey0
  rw [ey0] at hj13 htr
  obtain ⟨y5, ey5⟩ : ∃ z : Int32, F 11 = z := ⟨_, rfl⟩
  rw [ey5] at hj15
  have hy5 := tk_rng y5
  obtain ⟨ht_ld20, ht_ld70, ht_ld80, ht_ld90, ht_ld100, ht_ld110, ht_ld120⟩ := id hT.1
  obtain ⟨ht_ld24, ht_ld76, ht_ld86, ht_ld96, ht_ld106, ht_ld116, ht_ld126⟩ := id hT.2.1
  obtain ⟨ht_ld25, ht_ld77, ht_ld87, ht_ld97, ht_ld107, ht_ld117, ht_ld127⟩ := id hT.2.2.1
  have ht_ld26 := hT.2.2.2.1
  have ht_ld49 := hT.2.2.2.2
  obtain ⟨x1, hx1⟩ : ∃ z, xs (v + 1 : Int32).toNatClampNeg = z := ⟨_, rfl⟩
  have hk1 : (1 : Int32).toInt = 1 := by decide
  refine lv_aload_n hx hb dL_law_670 rfl (lv_at hl 2 rfl) ?_
  refine lv_aload_n hx hb dL_law_671 rfl (lv_at hl 3 rfl) ?_
  refine lv_iload_n hx hb dL_law_672 rfl (lv_at hl 0 rfl) ?_
  refine lv_iconst (v := 1) hx hb dL_law_673 (by decide) ?_
  refine lv_iadd hx hb dL_law_674 ?_
  refine va_sld hx hb hX hbl hbA hS (lw_in hv hk1 (by omega) (by omega) (by omega) hL) dL_law_675 ?_
  refine fx_ti (v := x1) hx1 ?_
  refine tk_ViA (As := [.int x1]) (rest := []) (ci := 12) ⟨hx, hb, hml, hown, htl⟩ hK hG hZ hAZ hS (k_X12_force_x l D cy ld t a0 x1 y0 y5 n0 n1 n2 n3 fh fs fk q1 q2 q3 ht0 ht_ld20 ht_ld70 ht_ld80 ht_ld90 ht_ld100 ht_ld110 ht_ld120 (by omega) (by omega) (by omega) (by omega) (by omega) (by omega) (by omega) (by omega) (by omega) (by omega) (by omega) (by omega)) ⟨hj13, hj15, hC⟩ ⟨callB_of 1 htl (wl_inL mw_1182) rfl rfl rfl (htl _ mw_2) (htl _ mw_1179) hd_yX12_force ⟨(Nat.le_of_ble_eq_true rfl), (Nat.le_of_ble_eq_true rfl)⟩, htl _ mw_1180, htl _ mw_1181⟩ ht0 (by decide) tk_no rfl (fun q h => hge q h.1) rfl hl.1 rfl (Nat.le_of_ble_eq_true rfl) dL_law_676 ⟨by show cells + 0 ≤ 600000; omega, by show slots + 0 ≤ 7302250; omega⟩ (fun r1 H locs hpo1 hG hS hz9 hq9 => ?_)
  obtain ⟨hj13, hj15, hC⟩ := hpo1
  have hKI := jK.call hT hKI hq9 (by decide) (by decide) (by decide)
  have htp := htp.call hq9 (tk_w.no ht_ld26 (by decide))
  have hM := hM.frame (H1 := H) (fun q hq => hq9 q (hM.lt hq) (fun h => hsep q h.1 hq))
  refine lv_pop hx hb dL_law_679 rfl ?_
  refine lv_aload_n hx hb dL_law_680 rfl (lv_at hl 1 rfl) ?_
  refine lv_aload_n hx hb dL_law_681 rfl (lv_at hl 3 rfl) ?_
  refine lv_iload_n hx hb dL_law_682 rfl (lv_at hl 0 rfl) ?_
  refine lv_iconst (v := 1) hx hb dL_law_683 (by decide) ?_
  refine lv_iadd hx hb dL_law_684 ?_
  refine va_sld hx hb hX hbl hbA hS (lw_in hv hk1 (by omega) (by omega) (by omega) hL) dL_law_685 ?_
  refine fx_ti (v := x1) hx1 ?_
  refine mz_ViA (As := [.int x1]) (rest := []) ⟨hx, hb, hml, hown, htl⟩ hK hM hS (fun q h => hwge q h) (k_X13_force l D cy ld ad am hD _ _ _ _ x1 hIF hIG hIR) ⟨callB_of 1 htl (wl_inL mw_1187) rfl rfl rfl (htl _ mw_5) (htl _ mw_1184) hd_yX13_force ⟨(Nat.le_of_ble_eq_true rfl), (Nat.le_of_ble_eq_true rfl)⟩, htl _ mw_1185, htl _ mw_1186⟩ rfl hl.1 rfl (Nat.le_of_ble_eq_true rfl) dL_law_686 ⟨by show cells + 0 + 0 ≤ 600000; omega, by show slots + 0 + 0 ≤ 7302250; omega⟩ (fun r2 H locs F G R S hpo hM hS hz9 hq9 => ?_)
  have hall := fun (q : Nat) (hq : (t q).1 ≠ 0) => hq9 q (hG.lt hq) (hsep q hq)
  have hG := hG.frame (H1 := H) hall
  have hC := jC.all hT.1 hC hall
  have hKI := jK.all hT hKI hall
  have htp := htp.kept (hall _ (by rw [ht_ld26]; exact Nat.succ_ne_zero _))
  have hj13 := hj13.kept (hall _ (by rw [ht0]; exact Nat.succ_ne_zero _))
  have hj15 := hj15.kept (hall _ (by rw [ht0]; exact Nat.succ_ne_zero _))
  obtain ⟨hIF, hIG, hIR, hfr9, hrr9, hgr9, hrel9⟩ := hpo
  have hR := hR.rel hrel9
  have hKI : jK D ld (R 4) (R 5) H := by rw [hrr9 4 (by decide), hrr9 5 (by decide)]; exact hKI
  have eF13 := (hfr9 13 (by decide)).trans ey0
  have htr : ∀ j : Nat, (j : Int) < y0.toInt → ft j = R 12 j := by rw [hrr9 12 (by decide)]; exact htr
  have eF11 := (hfr9 11 (by decide)).trans ey5
  have hJ9 : lw_J D ld t a0 F R H := ⟨hT, ⟨_, _, _, _, _, _, _, _, _, _, hC, hR⟩, hKI, ⟨_, htp, by rw [eF13]; exact htr⟩, by rw [eF13]; exact hj13, by rw [eF11]; exact hj15⟩
  refine lv_pop hx hb dL_law_689 rfl ?_
  refine lv_goto (tgt := 1375) hx hb dL_law_690 (by decide) ?_
  refine W.widen (k := cells + 7) (n := slots + 1106) (by exact Nat.le_add_right _ _) (by exact Nat.le_add_right _ _) ?_
  exact kk t F G R S H locs ls ⟨ht0, hG, hge, hD, hM, ⟨hIF, hIG, hIR⟩, hsep, hwge⟩ hJ9 hS hl
set_option maxHeartbeats 8000000 in
set_option maxRecDepth 100000 in
theorem law_17 {p : Program} {l : Launch} {e : Env} {s : State} {m : MethodId} {below : List Frame} {meth : Method} {c : Code} {b L : Nat} {xs : Nat → Int32} (C0 : lw_At p s m meth c b L xs) (htl : ∀ w ∈ wsA, w.before #[Value.ref b] s = true) {D : va_G} {cy : Nat → ClassId} {ld ad : Nat → Nat} (hK : kk_K D cy ld s) (hZ0 : tk_Z ld (fun _ => (0, 0, 0)) s) {t : tk_T} {a0 am : Nat} {F : Nat → Int32} {G : Nat → Int64} {R : Nat → Nat → Int32} {S : Nat → Nat → Int64} {H : Heap} {locs : List Loc} (hI : lw_I D cy ld t ad a0 am s.heap.size F G R S H) (hJ : lw_J D ld t a0 F R H) (hS : va_S (fun q : Nat => s.heap.size ≤ q) s.heap H locs) (hS0 : s.heap.size ≤ H.size) (hL : L ≤ 3072) {v : Int32} {i : Int} (hv : v.toInt = i) (hi : 0 ≤ i) (hiL : i + 6 ≤ (L : Int)) {cells slots : Nat} (hc : cells + 7 ≤ 600000) (hs : slots + 1106 ≤ 7302250) (ls : Array Slot) (hl : lv_has ls 4 [(3, .int v), (2, .ref am), (1, .ref a0), (0, .ref b)]) (kk : ∀ (t : tk_T) (F : Nat → Int32) (G : Nat → Int64) (R : Nat → Nat → Int32) (S : Nat → Nat → Int64) (H : Heap) (locs : List Loc) (ls : Array Slot), lw_I D cy ld t ad a0 am s.heap.size F G R S H → lw_J D ld t a0 F R H → va_S (fun q : Nat => s.heap.size ≤ q) s.heap H locs → lv_has ls 4 [(3, .int v), (2, .ref am), (1, .ref a0), (0, .ref b)] → W p l e room_1 s m #[Value.ref b] below meth c H locs (cells + 7) (slots + 1106) (lw_Z below #[Value.ref b] s) (F0 m 1375 ls [])) : W p l e room_1 s m #[Value.ref b] below meth c H locs (cells) (slots) (lw_Z below #[Value.ref b] s) (F0 m 693 ls []) := by
  obtain ⟨hx, hb, hr, hml, hown, hts, hX, hbl, hlocks, hgv⟩ := id C0
  have hown : s.vm.findClass RL = some m.cls := hown
  have hbA : ¬ (fun q : Nat => s.heap.size ≤ q) b := Nat.not_le.mpr hbl
  obtain ⟨ht0, hG, hge, hD, hM, ⟨hIF, hIG, hIR⟩, hsep, hwge⟩ := hI
  have hZ := lw_Z0 hZ0 hge
  have hAZ : ∀ q : Nat, q < s.heap.size → (fun q : Nat => s.heap.size ≤ q) q → (t q).1 ≠ 0 := fun q h1 h2 => absurd h2 (Nat.not_le.mpr h1)
  obtain ⟨hT, ⟨n0, n1, n2, n3, fh, fs, fk, q1, q2, q3, hC, hR⟩, hKI, ⟨ft, htp, htr⟩, hj13, hj15⟩ := hJ
  obtain ⟨⟨e30, e31, e32, e33⟩, ⟨⟨b0, b1⟩, ⟨b2, b3⟩, ⟨b4, b5⟩, b6, b7⟩, -⟩ := id hR
  obtain ⟨y0, ey0⟩ : ∃ z : Int32, F 13 = z := ⟨_, rfl⟩
  have hy0 : 0 ≤ y0.toInt ∧ y0.toInt ≤ 400 := hIF.at ey0
  rw [ey0] at hj13 htr
  obtain ⟨y5, ey5⟩ : ∃ z : Int32, F 11 = z := ⟨_, rfl⟩
  rw [ey5] at hj15
  have hy5 := tk_rng y5
  obtain ⟨ht_ld20, ht_ld70, ht_ld80, ht_ld90, ht_ld100, ht_ld110, ht_ld120⟩ := id hT.1
  obtain ⟨ht_ld24, ht_ld76, ht_ld86, ht_ld96, ht_ld106, ht_ld116, ht_ld126⟩ := id hT.2.1
  obtain ⟨ht_ld25, ht_ld77, ht_ld87, ht_ld97, ht_ld107, ht_ld117, ht_ld127⟩ := id hT.2.2.1
  have ht_ld26 := hT.2.2.2.1
  have ht_ld49 := hT.2.2.2.2
  obtain ⟨x1, hx1⟩ : ∃ z, xs (v + 1 : Int32).toNatClampNeg = z := ⟨_, rfl⟩
  have hk1 : (1 : Int32).toInt = 1 := by decide
  obtain ⟨x2, hx2⟩ : ∃ z, xs (v + 2 : Int32).toNatClampNeg = z := ⟨_, rfl⟩
  have hk2 : (2 : Int32).toInt = 2 := by decide
  refine lv_aload_n hx hb dL_law_693 rfl (lv_at hl 2 rfl) ?_
  refine lv_aload_n hx hb dL_law_694 rfl (lv_at hl 3 rfl) ?_
  refine lv_iload_n hx hb dL_law_695 rfl (lv_at hl 0 rfl) ?_
  refine lv_iconst (v := 1) hx hb dL_law_696 (by decide) ?_
  refine lv_iadd hx hb dL_law_697 ?_
  refine va_sld hx hb hX hbl hbA hS (lw_in hv hk1 (by omega) (by omega) (by omega) hL) dL_law_698 ?_
  refine fx_ti (v := x1) hx1 ?_
  refine lv_aload_n hx hb dL_law_699 rfl (lv_at hl 3 rfl) ?_
  refine lv_iload_n hx hb dL_law_700 rfl (lv_at hl 0 rfl) ?_
  refine lv_iconst (v := 2) hx hb dL_law_701 (by decide) ?_
  refine lv_iadd hx hb dL_law_702 ?_
  refine va_sld hx hb hX hbl hbA hS (lw_in hv hk2 (by omega) (by omega) (by omega) hL) dL_law_703 ?_
  refine fx_ti (v := x2) hx2 ?_
  refine tk_ViA (As := [.int x1, .int x2]) (rest := []) (ci := 12) ⟨hx, hb, hml, hown, htl⟩ hK hG hZ hAZ hS (k_X12_asks l D cy ld t a0 x1 x2 ht0) trivial ⟨callB_of 2 htl (wl_inL mw_1191) rfl rfl rfl (htl _ mw_2) (htl _ mw_1188) hd_yX12_asks ⟨(Nat.le_of_ble_eq_true rfl), (Nat.le_of_ble_eq_true rfl)⟩, htl _ mw_1189, htl _ mw_1190⟩ ht0 (by decide) tk_no rfl (fun q h => hge q h.1) rfl hl.1 rfl (Nat.le_of_ble_eq_true rfl) dL_law_704 ⟨by show cells + 0 ≤ 600000; omega, by show slots + 0 ≤ 7302250; omega⟩ (fun r1 H locs hpo1 hG hS hz9 hq9 => ?_)
  have hC := jC.call hT.1 hC hq9 (by decide)
  have hKI := jK.call hT hKI hq9 (by decide) (by decide) (by decide)
  have htp := htp.call hq9 (tk_w.no ht_ld26 (by decide))
  have hj13 := hj13.call hq9 (tk_w.no ht0 (by decide))
  have hj15 := hj15.call hq9 (tk_w.no ht0 (by decide))
  have hM := hM.frame (H1 := H) (fun q hq => hq9 q (hM.lt hq) (fun h => hsep q h.1 hq))
  refine lv_pop hx hb dL_law_707 rfl ?_
  refine lv_aload_n hx hb dL_law_708 rfl (lv_at hl 1 rfl) ?_
  refine lv_aload_n hx hb dL_law_709 rfl (lv_at hl 3 rfl) ?_
  refine lv_iload_n hx hb dL_law_710 rfl (lv_at hl 0 rfl) ?_
  refine lv_iconst (v := 1) hx hb dL_law_711 (by decide) ?_
  refine lv_iadd hx hb dL_law_712 ?_
  refine va_sld hx hb hX hbl hbA hS (lw_in hv hk1 (by omega) (by omega) (by omega) hL) dL_law_713 ?_
  refine fx_ti (v := x1) hx1 ?_
  refine lv_aload_n hx hb dL_law_714 rfl (lv_at hl 3 rfl) ?_
  refine lv_iload_n hx hb dL_law_715 rfl (lv_at hl 0 rfl) ?_
  refine lv_iconst (v := 2) hx hb dL_law_716 (by decide) ?_
  refine lv_iadd hx hb dL_law_717 ?_
  refine va_sld hx hb hX hbl hbA hS (lw_in hv hk2 (by omega) (by omega) (by omega) hL) dL_law_718 ?_
  refine fx_ti (v := x2) hx2 ?_
  refine mz_ViA (As := [.int x1, .int x2]) (rest := []) ⟨hx, hb, hml, hown, htl⟩ hK hM hS (fun q h => hwge q h) (k_X13_asks l D cy ld ad am hD _ _ _ _ x1 x2 hIF hIG hIR) ⟨callB_of 2 htl (wl_inL mw_1205) rfl rfl rfl (htl _ mw_5) (htl _ mw_1202) hd_yX13_asks ⟨(Nat.le_of_ble_eq_true rfl), (Nat.le_of_ble_eq_true rfl)⟩, htl _ mw_1203, htl _ mw_1204⟩ rfl hl.1 rfl (Nat.le_of_ble_eq_true rfl) dL_law_719 ⟨by show cells + 0 + 0 ≤ 600000; omega, by show slots + 0 + 0 ≤ 7302250; omega⟩ (fun r2 H locs F G R S hpo hM hS hz9 hq9 => ?_)
  have hall := fun (q : Nat) (hq : (t q).1 ≠ 0) => hq9 q (hG.lt hq) (hsep q hq)
  have hG := hG.frame (H1 := H) hall
  have hC := jC.all hT.1 hC hall
  have hKI := jK.all hT hKI hall
  have htp := htp.kept (hall _ (by rw [ht_ld26]; exact Nat.succ_ne_zero _))
  have hj13 := hj13.kept (hall _ (by rw [ht0]; exact Nat.succ_ne_zero _))
  have hj15 := hj15.kept (hall _ (by rw [ht0]; exact Nat.succ_ne_zero _))
  obtain ⟨hIF, hIG, hIR, hfr9, hrr9, hgr9, hp2_0, hp2_1⟩ := hpo
  have hR := hR.rel (rK3.refl (hrr9 3 (by decide)))
  have hKI : jK D ld (R 4) (R 5) H := by rw [hrr9 4 (by decide), hrr9 5 (by decide)]; exact hKI
  have eF13 := (hfr9 13 (by decide)).trans ey0
  have htr : ∀ j : Nat, (j : Int) < y0.toInt → ft j = R 12 j := by rw [hrr9 12 (by decide)]; exact htr
  have eF11 := (hfr9 11 (by decide)).trans ey5
  have hJ9 : lw_J D ld t a0 F R H := ⟨hT, ⟨_, _, _, _, _, _, _, _, _, _, hC, hR⟩, hKI, ⟨_, htp, by rw [eF13]; exact htr⟩, by rw [eF13]; exact hj13, by rw [eF11]; exact hj15⟩
  refine lv_pop hx hb dL_law_722 rfl ?_
  refine lv_goto (tgt := 1375) hx hb dL_law_723 (by decide) ?_
  refine W.widen (k := cells + 7) (n := slots + 1106) (by exact Nat.le_add_right _ _) (by exact Nat.le_add_right _ _) ?_
  exact kk t F G R S H locs ls ⟨ht0, hG, hge, hD, hM, ⟨hIF, hIG, hIR⟩, hsep, hwge⟩ hJ9 hS hl
set_option maxHeartbeats 8000000 in
set_option maxRecDepth 100000 in
theorem law_18 {p : Program} {l : Launch} {e : Env} {s : State} {m : MethodId} {below : List Frame} {meth : Method} {c : Code} {b L : Nat} {xs : Nat → Int32} (C0 : lw_At p s m meth c b L xs) (htl : ∀ w ∈ wsA, w.before #[Value.ref b] s = true) {D : va_G} {cy : Nat → ClassId} {ld ad : Nat → Nat} (hK : kk_K D cy ld s) (hZ0 : tk_Z ld (fun _ => (0, 0, 0)) s) {t : tk_T} {a0 am : Nat} {F : Nat → Int32} {G : Nat → Int64} {R : Nat → Nat → Int32} {S : Nat → Nat → Int64} {H : Heap} {locs : List Loc} (hI : lw_I D cy ld t ad a0 am s.heap.size F G R S H) (hJ : lw_J D ld t a0 F R H) (hS : va_S (fun q : Nat => s.heap.size ≤ q) s.heap H locs) (hS0 : s.heap.size ≤ H.size) (hL : L ≤ 3072) {v : Int32} {i : Int} (hv : v.toInt = i) (hi : 0 ≤ i) (hiL : i + 6 ≤ (L : Int)) {cells slots : Nat} (hc : cells + 7 ≤ 600000) (hs : slots + 1106 ≤ 7302250) (ls : Array Slot) (hl : lv_has ls 4 [(3, .int v), (2, .ref am), (1, .ref a0), (0, .ref b)]) (kk : ∀ (t : tk_T) (F : Nat → Int32) (G : Nat → Int64) (R : Nat → Nat → Int32) (S : Nat → Nat → Int64) (H : Heap) (locs : List Loc) (ls : Array Slot), lw_I D cy ld t ad a0 am s.heap.size F G R S H → lw_J D ld t a0 F R H → va_S (fun q : Nat => s.heap.size ≤ q) s.heap H locs → lv_has ls 4 [(3, .int v), (2, .ref am), (1, .ref a0), (0, .ref b)] → W p l e room_1 s m #[Value.ref b] below meth c H locs (cells + 7) (slots + 1106) (lw_Z below #[Value.ref b] s) (F0 m 1375 ls [])) : W p l e room_1 s m #[Value.ref b] below meth c H locs (cells) (slots) (lw_Z below #[Value.ref b] s) (F0 m 726 ls []) := by
  obtain ⟨hx, hb, hr, hml, hown, hts, hX, hbl, hlocks, hgv⟩ := id C0
  have hown : s.vm.findClass RL = some m.cls := hown
  have hbA : ¬ (fun q : Nat => s.heap.size ≤ q) b := Nat.not_le.mpr hbl
  obtain ⟨ht0, hG, hge, hD, hM, ⟨hIF, hIG, hIR⟩, hsep, hwge⟩ := hI
  have hZ := lw_Z0 hZ0 hge
  have hAZ : ∀ q : Nat, q < s.heap.size → (fun q : Nat => s.heap.size ≤ q) q → (t q).1 ≠ 0 := fun q h1 h2 => absurd h2 (Nat.not_le.mpr h1)
  obtain ⟨hT, ⟨n0, n1, n2, n3, fh, fs, fk, q1, q2, q3, hC, hR⟩, hKI, ⟨ft, htp, htr⟩, hj13, hj15⟩ := hJ
  obtain ⟨⟨e30, e31, e32, e33⟩, ⟨⟨b0, b1⟩, ⟨b2, b3⟩, ⟨b4, b5⟩, b6, b7⟩, -⟩ := id hR
  obtain ⟨y0, ey0⟩ : ∃ z : Int32, F 13 = z := ⟨_, rfl⟩
  have hy0 : 0 ≤ y0.toInt ∧ y0.toInt ≤ 400 := hIF.at ey0
  rw [ey0] at hj13 htr
  obtain ⟨y5, ey5⟩ : ∃ z : Int32, F 11 = z := ⟨_, rfl⟩
  rw [ey5] at hj15
  have hy5 := tk_rng y5
  obtain ⟨ht_ld20, ht_ld70, ht_ld80, ht_ld90, ht_ld100, ht_ld110, ht_ld120⟩ := id hT.1
  obtain ⟨ht_ld24, ht_ld76, ht_ld86, ht_ld96, ht_ld106, ht_ld116, ht_ld126⟩ := id hT.2.1
  obtain ⟨ht_ld25, ht_ld77, ht_ld87, ht_ld97, ht_ld107, ht_ld117, ht_ld127⟩ := id hT.2.2.1
  have ht_ld26 := hT.2.2.2.1
  have ht_ld49 := hT.2.2.2.2
  obtain ⟨x1, hx1⟩ : ∃ z, xs (v + 1 : Int32).toNatClampNeg = z := ⟨_, rfl⟩
  have hk1 : (1 : Int32).toInt = 1 := by decide
  refine lv_aload_n hx hb dL_law_726 rfl (lv_at hl 2 rfl) ?_
  refine lv_aload_n hx hb dL_law_727 rfl (lv_at hl 3 rfl) ?_
  refine lv_iload_n hx hb dL_law_728 rfl (lv_at hl 0 rfl) ?_
  refine lv_iconst (v := 1) hx hb dL_law_729 (by decide) ?_
  refine lv_iadd hx hb dL_law_730 ?_
  refine va_sld hx hb hX hbl hbA hS (lw_in hv hk1 (by omega) (by omega) (by omega) hL) dL_law_731 ?_
  refine fx_ti (v := x1) hx1 ?_
  refine tk_ViA (As := [.int x1]) (rest := []) (ci := 12) ⟨hx, hb, hml, hown, htl⟩ hK hG hZ hAZ hS (k_X12_wakes l D cy ld t a0 x1 ht0) trivial ⟨callB_of 1 htl (wl_inL mw_1209) rfl rfl rfl (htl _ mw_2) (htl _ mw_1206) hd_yX12_wakes ⟨(Nat.le_of_ble_eq_true rfl), (Nat.le_of_ble_eq_true rfl)⟩, htl _ mw_1207, htl _ mw_1208⟩ ht0 (by decide) tk_no rfl (fun q h => hge q h.1) rfl hl.1 rfl (Nat.le_of_ble_eq_true rfl) dL_law_732 ⟨by show cells + 0 ≤ 600000; omega, by show slots + 0 ≤ 7302250; omega⟩ (fun r1 H locs hpo1 hG hS hz9 hq9 => ?_)
  have hp1_0 := hpo1
  have hC := jC.call hT.1 hC hq9 (by decide)
  have hKI := jK.call hT hKI hq9 (by decide) (by decide) (by decide)
  have htp := htp.call hq9 (tk_w.no ht_ld26 (by decide))
  have hj13 := hj13.call hq9 (tk_w.no ht0 (by decide))
  have hj15 := hj15.call hq9 (tk_w.no ht0 (by decide))
  have hM := hM.frame (H1 := H) (fun q hq => hq9 q (hM.lt hq) (fun h => hsep q h.1 hq))
  refine lv_pop hx hb dL_law_735 rfl ?_
  refine lv_aload_n hx hb dL_law_736 rfl (lv_at hl 1 rfl) ?_
  refine lv_aload_n hx hb dL_law_737 rfl (lv_at hl 3 rfl) ?_
  refine lv_iload_n hx hb dL_law_738 rfl (lv_at hl 0 rfl) ?_
  refine lv_iconst (v := 1) hx hb dL_law_739 (by decide) ?_
  refine lv_iadd hx hb dL_law_740 ?_
  refine va_sld hx hb hX hbl hbA hS (lw_in hv hk1 (by omega) (by omega) (by omega) hL) dL_law_741 ?_
  refine fx_ti (v := x1) hx1 ?_
  refine mz_ViA (As := [.int x1]) (rest := []) ⟨hx, hb, hml, hown, htl⟩ hK hM hS (fun q h => hwge q h) (k_X13_wakes l D cy ld ad am hD _ _ _ _ x1 hIF hIG hIR) ⟨callB_of 1 htl (wl_inL mw_1214) rfl rfl rfl (htl _ mw_5) (htl _ mw_1211) hd_yX13_wakes ⟨(Nat.le_of_ble_eq_true rfl), (Nat.le_of_ble_eq_true rfl)⟩, htl _ mw_1212, htl _ mw_1213⟩ rfl hl.1 rfl (Nat.le_of_ble_eq_true rfl) dL_law_742 ⟨by show cells + 0 + 0 ≤ 600000; omega, by show slots + 0 + 0 ≤ 7302250; omega⟩ (fun r2 H locs F G R S hpo hM hS hz9 hq9 => ?_)
  have hall := fun (q : Nat) (hq : (t q).1 ≠ 0) => hq9 q (hG.lt hq) (hsep q hq)
  have hG := hG.frame (H1 := H) hall
  have hC := jC.all hT.1 hC hall
  have hKI := jK.all hT hKI hall
  have htp := htp.kept (hall _ (by rw [ht_ld26]; exact Nat.succ_ne_zero _))
  have hj13 := hj13.kept (hall _ (by rw [ht0]; exact Nat.succ_ne_zero _))
  have hj15 := hj15.kept (hall _ (by rw [ht0]; exact Nat.succ_ne_zero _))
  obtain ⟨hIF, hIG, hIR, hfr9, hrr9, hgr9, hp2_0, hp2_1⟩ := hpo
  have hR := hR.rel (rK3.refl (hrr9 3 (by decide)))
  have hKI : jK D ld (R 4) (R 5) H := by rw [hrr9 4 (by decide), hrr9 5 (by decide)]; exact hKI
  have eF13 := (hfr9 13 (by decide)).trans ey0
  have htr : ∀ j : Nat, (j : Int) < y0.toInt → ft j = R 12 j := by rw [hrr9 12 (by decide)]; exact htr
  have eF11 := (hfr9 11 (by decide)).trans ey5
  have hJ9 : lw_J D ld t a0 F R H := ⟨hT, ⟨_, _, _, _, _, _, _, _, _, _, hC, hR⟩, hKI, ⟨_, htp, by rw [eF13]; exact htr⟩, by rw [eF13]; exact hj13, by rw [eF11]; exact hj15⟩
  refine lv_pop hx hb dL_law_745 rfl ?_
  refine lv_goto (tgt := 1375) hx hb dL_law_746 (by decide) ?_
  refine W.widen (k := cells + 7) (n := slots + 1106) (by exact Nat.le_add_right _ _) (by exact Nat.le_add_right _ _) ?_
  exact kk t F G R S H locs ls ⟨ht0, hG, hge, hD, hM, ⟨hIF, hIG, hIR⟩, hsep, hwge⟩ hJ9 hS hl
set_option maxHeartbeats 8000000 in
set_option maxRecDepth 100000 in
theorem law_19 {p : Program} {l : Launch} {e : Env} {s : State} {m : MethodId} {below : List Frame} {meth : Method} {c : Code} {b L : Nat} {xs : Nat → Int32} (C0 : lw_At p s m meth c b L xs) (htl : ∀ w ∈ wsA, w.before #[Value.ref b] s = true) {D : va_G} {cy : Nat → ClassId} {ld ad : Nat → Nat} (hK : kk_K D cy ld s) (hZ0 : tk_Z ld (fun _ => (0, 0, 0)) s) {t : tk_T} {a0 am : Nat} {F : Nat → Int32} {G : Nat → Int64} {R : Nat → Nat → Int32} {S : Nat → Nat → Int64} {H : Heap} {locs : List Loc} (hI : lw_I D cy ld t ad a0 am s.heap.size F G R S H) (hJ : lw_J D ld t a0 F R H) (hS : va_S (fun q : Nat => s.heap.size ≤ q) s.heap H locs) (hS0 : s.heap.size ≤ H.size) (hL : L ≤ 3072) {v : Int32} {i : Int} (hv : v.toInt = i) (hi : 0 ≤ i) (hiL : i + 6 ≤ (L : Int)) {cells slots : Nat} (hc : cells + 7 ≤ 600000) (hs : slots + 1106 ≤ 7302250) (ls : Array Slot) (hl : lv_has ls 4 [(3, .int v), (2, .ref am), (1, .ref a0), (0, .ref b)]) (kk : ∀ (t : tk_T) (F : Nat → Int32) (G : Nat → Int64) (R : Nat → Nat → Int32) (S : Nat → Nat → Int64) (H : Heap) (locs : List Loc) (ls : Array Slot), lw_I D cy ld t ad a0 am s.heap.size F G R S H → lw_J D ld t a0 F R H → va_S (fun q : Nat => s.heap.size ≤ q) s.heap H locs → lv_has ls 4 [(3, .int v), (2, .ref am), (1, .ref a0), (0, .ref b)] → W p l e room_1 s m #[Value.ref b] below meth c H locs (cells + 7) (slots + 1106) (lw_Z below #[Value.ref b] s) (F0 m 1375 ls [])) : W p l e room_1 s m #[Value.ref b] below meth c H locs (cells) (slots) (lw_Z below #[Value.ref b] s) (F0 m 749 ls []) := by
  obtain ⟨hx, hb, hr, hml, hown, hts, hX, hbl, hlocks, hgv⟩ := id C0
  have hown : s.vm.findClass RL = some m.cls := hown
  have hbA : ¬ (fun q : Nat => s.heap.size ≤ q) b := Nat.not_le.mpr hbl
  obtain ⟨ht0, hG, hge, hD, hM, ⟨hIF, hIG, hIR⟩, hsep, hwge⟩ := hI
  have hZ := lw_Z0 hZ0 hge
  have hAZ : ∀ q : Nat, q < s.heap.size → (fun q : Nat => s.heap.size ≤ q) q → (t q).1 ≠ 0 := fun q h1 h2 => absurd h2 (Nat.not_le.mpr h1)
  obtain ⟨hT, ⟨n0, n1, n2, n3, fh, fs, fk, q1, q2, q3, hC, hR⟩, hKI, ⟨ft, htp, htr⟩, hj13, hj15⟩ := hJ
  obtain ⟨⟨e30, e31, e32, e33⟩, ⟨⟨b0, b1⟩, ⟨b2, b3⟩, ⟨b4, b5⟩, b6, b7⟩, -⟩ := id hR
  obtain ⟨y0, ey0⟩ : ∃ z : Int32, F 13 = z := ⟨_, rfl⟩
  have hy0 : 0 ≤ y0.toInt ∧ y0.toInt ≤ 400 := hIF.at ey0
  rw [ey0] at hj13 htr
  obtain ⟨y5, ey5⟩ : ∃ z : Int32, F 11 = z := ⟨_, rfl⟩
  rw [ey5] at hj15
  have hy5 := tk_rng y5
  obtain ⟨ht_ld20, ht_ld70, ht_ld80, ht_ld90, ht_ld100, ht_ld110, ht_ld120⟩ := id hT.1
  obtain ⟨ht_ld24, ht_ld76, ht_ld86, ht_ld96, ht_ld106, ht_ld116, ht_ld126⟩ := id hT.2.1
  obtain ⟨ht_ld25, ht_ld77, ht_ld87, ht_ld97, ht_ld107, ht_ld117, ht_ld127⟩ := id hT.2.2.1
  have ht_ld26 := hT.2.2.2.1
  have ht_ld49 := hT.2.2.2.2
  obtain ⟨x1, hx1⟩ : ∃ z, xs (v + 1 : Int32).toNatClampNeg = z := ⟨_, rfl⟩
  have hk1 : (1 : Int32).toInt = 1 := by decide
  obtain ⟨x2, hx2⟩ : ∃ z, xs (v + 2 : Int32).toNatClampNeg = z := ⟨_, rfl⟩
  have hk2 : (2 : Int32).toInt = 2 := by decide
  obtain ⟨x3, hx3⟩ : ∃ z, xs (v + 3 : Int32).toNatClampNeg = z := ⟨_, rfl⟩
  have hk3 : (3 : Int32).toInt = 3 := by decide
  refine lv_aload_n hx hb dL_law_749 rfl (lv_at hl 2 rfl) ?_
  refine lv_aload_n hx hb dL_law_750 rfl (lv_at hl 3 rfl) ?_
  refine lv_iload_n hx hb dL_law_751 rfl (lv_at hl 0 rfl) ?_
  refine lv_iconst (v := 1) hx hb dL_law_752 (by decide) ?_
  refine lv_iadd hx hb dL_law_753 ?_
  refine va_sld hx hb hX hbl hbA hS (lw_in hv hk1 (by omega) (by omega) (by omega) hL) dL_law_754 ?_
  refine fx_ti (v := x1) hx1 ?_
  refine lv_aload_n hx hb dL_law_755 rfl (lv_at hl 3 rfl) ?_
  refine lv_iload_n hx hb dL_law_756 rfl (lv_at hl 0 rfl) ?_
  refine lv_iconst (v := 2) hx hb dL_law_757 (by decide) ?_
  refine lv_iadd hx hb dL_law_758 ?_
  refine va_sld hx hb hX hbl hbA hS (lw_in hv hk2 (by omega) (by omega) (by omega) hL) dL_law_759 ?_
  refine fx_ti (v := x2) hx2 ?_
  refine lv_aload_n hx hb dL_law_760 rfl (lv_at hl 3 rfl) ?_
  refine lv_iload_n hx hb dL_law_761 rfl (lv_at hl 0 rfl) ?_
  refine lv_iconst (v := 3) hx hb dL_law_762 (by decide) ?_
  refine lv_iadd hx hb dL_law_763 ?_
  refine va_sld hx hb hX hbl hbA hS (lw_in hv hk3 (by omega) (by omega) (by omega) hL) dL_law_764 ?_
  refine fx_ti (v := x3) hx3 ?_
  refine tk_ViA (As := [.int x1, .int x2, .int x3]) (rest := []) (ci := 12) ⟨hx, hb, hml, hown, htl⟩ hK hG hZ hAZ hS (k_X12_begin_x l D cy ld t a0 x1 x2 x3 y0 y5 ht0 (by omega) (by omega) (by omega) (by omega)) ⟨hj13, hj15⟩ ⟨callB_of 3 htl (wl_inL mw_1218) rfl rfl rfl (htl _ mw_2) (htl _ mw_1215) hd_yX12_begin ⟨(Nat.le_of_ble_eq_true rfl), (Nat.le_of_ble_eq_true rfl)⟩, htl _ mw_1216, htl _ mw_1217⟩ ht0 (by decide) tk_no rfl (fun q h => hge q h.1) rfl hl.1 rfl (Nat.le_of_ble_eq_true rfl) dL_law_765 ⟨by show cells + 0 ≤ 600000; omega, by show slots + 0 ≤ 7302250; omega⟩ (fun r1 H locs hpo1 hG hS hz9 hq9 => ?_)
  obtain ⟨hp1_0, hp1_1, hj13, hj15⟩ := hpo1
  have hC := jC.call hT.1 hC hq9 (by decide)
  have hKI := jK.call hT hKI hq9 (by decide) (by decide) (by decide)
  have htp := htp.call hq9 (tk_w.no ht_ld26 (by decide))
  have hM := hM.frame (H1 := H) (fun q hq => hq9 q (hM.lt hq) (fun h => hsep q h.1 hq))
  refine lv_pop hx hb dL_law_768 rfl ?_
  refine lv_aload_n hx hb dL_law_769 rfl (lv_at hl 1 rfl) ?_
  refine lv_aload_n hx hb dL_law_770 rfl (lv_at hl 3 rfl) ?_
  refine lv_iload_n hx hb dL_law_771 rfl (lv_at hl 0 rfl) ?_
  refine lv_iconst (v := 1) hx hb dL_law_772 (by decide) ?_
  refine lv_iadd hx hb dL_law_773 ?_
  refine va_sld hx hb hX hbl hbA hS (lw_in hv hk1 (by omega) (by omega) (by omega) hL) dL_law_774 ?_
  refine fx_ti (v := x1) hx1 ?_
  refine lv_aload_n hx hb dL_law_775 rfl (lv_at hl 3 rfl) ?_
  refine lv_iload_n hx hb dL_law_776 rfl (lv_at hl 0 rfl) ?_
  refine lv_iconst (v := 2) hx hb dL_law_777 (by decide) ?_
  refine lv_iadd hx hb dL_law_778 ?_
  refine va_sld hx hb hX hbl hbA hS (lw_in hv hk2 (by omega) (by omega) (by omega) hL) dL_law_779 ?_
  refine fx_ti (v := x2) hx2 ?_
  refine lv_aload_n hx hb dL_law_780 rfl (lv_at hl 3 rfl) ?_
  refine lv_iload_n hx hb dL_law_781 rfl (lv_at hl 0 rfl) ?_
  refine lv_iconst (v := 3) hx hb dL_law_782 (by decide) ?_
  refine lv_iadd hx hb dL_law_783 ?_
  refine va_sld hx hb hX hbl hbA hS (lw_in hv hk3 (by omega) (by omega) (by omega) hL) dL_law_784 ?_
  refine fx_ti (v := x3) hx3 ?_
  refine mz_ViA (As := [.int x1, .int x2, .int x3]) (rest := []) ⟨hx, hb, hml, hown, htl⟩ hK hM hS (fun q h => hwge q h) (k_X13_begin l D cy ld ad am hD _ _ _ _ x1 x2 x3 hIF hIG hIR) ⟨callB_of 3 htl (wl_inL mw_1223) rfl rfl rfl (htl _ mw_5) (htl _ mw_1220) hd_yX13_begin ⟨(Nat.le_of_ble_eq_true rfl), (Nat.le_of_ble_eq_true rfl)⟩, htl _ mw_1221, htl _ mw_1222⟩ rfl hl.1 rfl (Nat.le_of_ble_eq_true rfl) dL_law_785 ⟨by show cells + 0 + 0 ≤ 600000; omega, by show slots + 0 + 0 ≤ 7302250; omega⟩ (fun r2 H locs F G R S hpo hM hS hz9 hq9 => ?_)
  have hall := fun (q : Nat) (hq : (t q).1 ≠ 0) => hq9 q (hG.lt hq) (hsep q hq)
  have hG := hG.frame (H1 := H) hall
  have hC := jC.all hT.1 hC hall
  have hKI := jK.all hT hKI hall
  have htp := htp.kept (hall _ (by rw [ht_ld26]; exact Nat.succ_ne_zero _))
  have hj13 := hj13.kept (hall _ (by rw [ht0]; exact Nat.succ_ne_zero _))
  have hj15 := hj15.kept (hall _ (by rw [ht0]; exact Nat.succ_ne_zero _))
  obtain ⟨hIF, hIG, hIR, hfr9, hrr9, hgr9, hrel9, hp2_0, hp2_1⟩ := hpo
  have hR := hR.rel hrel9.k3
  have hKI : jK D ld (R 4) (R 5) H := by rw [hrr9 4 (by decide), hrr9 5 (by decide)]; exact hKI
  have eF13 := (hfr9 13 (by decide)).trans ey0
  have htr : ∀ j : Nat, (j : Int) < y0.toInt → ft j = R 12 j := by rw [hrr9 12 (by decide)]; exact htr
  have eF11 := (hfr9 11 (by decide)).trans ey5
  have hJ9 : lw_J D ld t a0 F R H := ⟨hT, ⟨_, _, _, _, _, _, _, _, _, _, hC, hR⟩, hKI, ⟨_, htp, by rw [eF13]; exact htr⟩, by rw [eF13]; exact hj13, by rw [eF11]; exact hj15⟩
  refine lv_pop hx hb dL_law_788 rfl ?_
  refine lv_goto (tgt := 1375) hx hb dL_law_789 (by decide) ?_
  refine W.widen (k := cells + 7) (n := slots + 1106) (by exact Nat.le_add_right _ _) (by exact Nat.le_add_right _ _) ?_
  exact kk t F G R S H locs ls ⟨ht0, hG, hge, hD, hM, ⟨hIF, hIG, hIR⟩, hsep, hwge⟩ hJ9 hS hl
set_option maxHeartbeats 8000000 in
set_option maxRecDepth 100000 in
theorem law_20 {p : Program} {l : Launch} {e : Env} {s : State} {m : MethodId} {below : List Frame} {meth : Method} {c : Code} {b L : Nat} {xs : Nat → Int32} (C0 : lw_At p s m meth c b L xs) (htl : ∀ w ∈ wsA, w.before #[Value.ref b] s = true) {D : va_G} {cy : Nat → ClassId} {ld ad : Nat → Nat} (hK : kk_K D cy ld s) (hZ0 : tk_Z ld (fun _ => (0, 0, 0)) s) {t : tk_T} {a0 am : Nat} {F : Nat → Int32} {G : Nat → Int64} {R : Nat → Nat → Int32} {S : Nat → Nat → Int64} {H : Heap} {locs : List Loc} (hI : lw_I D cy ld t ad a0 am s.heap.size F G R S H) (hJ : lw_J D ld t a0 F R H) (hS : va_S (fun q : Nat => s.heap.size ≤ q) s.heap H locs) (hS0 : s.heap.size ≤ H.size) (hL : L ≤ 3072) {v : Int32} {i : Int} (hv : v.toInt = i) (hi : 0 ≤ i) (hiL : i + 6 ≤ (L : Int)) {cells slots : Nat} (hc : cells + 7 ≤ 600000) (hs : slots + 1106 ≤ 7302250) (ls : Array Slot) (hl : lv_has ls 4 [(3, .int v), (2, .ref am), (1, .ref a0), (0, .ref b)]) (kk : ∀ (t : tk_T) (F : Nat → Int32) (G : Nat → Int64) (R : Nat → Nat → Int32) (S : Nat → Nat → Int64) (H : Heap) (locs : List Loc) (ls : Array Slot), lw_I D cy ld t ad a0 am s.heap.size F G R S H → lw_J D ld t a0 F R H → va_S (fun q : Nat => s.heap.size ≤ q) s.heap H locs → lv_has ls 4 [(3, .int v), (2, .ref am), (1, .ref a0), (0, .ref b)] → W p l e room_1 s m #[Value.ref b] below meth c H locs (cells + 7) (slots + 1106) (lw_Z below #[Value.ref b] s) (F0 m 1375 ls [])) : W p l e room_1 s m #[Value.ref b] below meth c H locs (cells) (slots) (lw_Z below #[Value.ref b] s) (F0 m 792 ls []) := by
  obtain ⟨hx, hb, hr, hml, hown, hts, hX, hbl, hlocks, hgv⟩ := id C0
  have hown : s.vm.findClass RL = some m.cls := hown
  have hbA : ¬ (fun q : Nat => s.heap.size ≤ q) b := Nat.not_le.mpr hbl
  obtain ⟨ht0, hG, hge, hD, hM, ⟨hIF, hIG, hIR⟩, hsep, hwge⟩ := hI
  have hZ := lw_Z0 hZ0 hge
  have hAZ : ∀ q : Nat, q < s.heap.size → (fun q : Nat => s.heap.size ≤ q) q → (t q).1 ≠ 0 := fun q h1 h2 => absurd h2 (Nat.not_le.mpr h1)
  obtain ⟨hT, ⟨n0, n1, n2, n3, fh, fs, fk, q1, q2, q3, hC, hR⟩, hKI, ⟨ft, htp, htr⟩, hj13, hj15⟩ := hJ
  obtain ⟨⟨e30, e31, e32, e33⟩, ⟨⟨b0, b1⟩, ⟨b2, b3⟩, ⟨b4, b5⟩, b6, b7⟩, -⟩ := id hR
  obtain ⟨y0, ey0⟩ : ∃ z : Int32, F 13 = z := ⟨_, rfl⟩
  have hy0 : 0 ≤ y0.toInt ∧ y0.toInt ≤ 400 := hIF.at ey0
  rw [ey0] at hj13 htr
  obtain ⟨y5, ey5⟩ : ∃ z : Int32, F 11 = z := ⟨_, rfl⟩
  rw [ey5] at hj15
  have hy5 := tk_rng y5
  obtain ⟨ht_ld20, ht_ld70, ht_ld80, ht_ld90, ht_ld100, ht_ld110, ht_ld120⟩ := id hT.1
  obtain ⟨ht_ld24, ht_ld76, ht_ld86, ht_ld96, ht_ld106, ht_ld116, ht_ld126⟩ := id hT.2.1
  obtain ⟨ht_ld25, ht_ld77, ht_ld87, ht_ld97, ht_ld107, ht_ld117, ht_ld127⟩ := id hT.2.2.1
  have ht_ld26 := hT.2.2.2.1
  have ht_ld49 := hT.2.2.2.2
  obtain ⟨x1, hx1⟩ : ∃ z, xs (v + 1 : Int32).toNatClampNeg = z := ⟨_, rfl⟩
  have hk1 : (1 : Int32).toInt = 1 := by decide
  refine lv_aload_n hx hb dL_law_792 rfl (lv_at hl 2 rfl) ?_
  refine lv_aload_n hx hb dL_law_793 rfl (lv_at hl 3 rfl) ?_
  refine lv_iload_n hx hb dL_law_794 rfl (lv_at hl 0 rfl) ?_
  refine lv_iconst (v := 1) hx hb dL_law_795 (by decide) ?_
  refine lv_iadd hx hb dL_law_796 ?_
  refine va_sld hx hb hX hbl hbA hS (lw_in hv hk1 (by omega) (by omega) (by omega) hL) dL_law_797 ?_
  refine fx_ti (v := x1) hx1 ?_
  refine tk_ViA (As := [.int x1]) (rest := []) (ci := 12) ⟨hx, hb, hml, hown, htl⟩ hK hG hZ hAZ hS (k_X12_duel l D cy ld t a0 x1 ht0) trivial ⟨callB_of 1 htl (wl_inL mw_1227) rfl rfl rfl (htl _ mw_2) (htl _ mw_1224) hd_yX12_duel ⟨(Nat.le_of_ble_eq_true rfl), (Nat.le_of_ble_eq_true rfl)⟩, htl _ mw_1225, htl _ mw_1226⟩ ht0 (by decide) tk_no rfl (fun q h => hge q h.1) rfl hl.1 rfl (Nat.le_of_ble_eq_true rfl) dL_law_798 ⟨by show cells + 0 ≤ 600000; omega, by show slots + 0 ≤ 7302250; omega⟩ (fun r1 H locs hpo1 hG hS hz9 hq9 => ?_)
  have hC := jC.call hT.1 hC hq9 (by decide)
  have hKI := jK.call hT hKI hq9 (by decide) (by decide) (by decide)
  have htp := htp.call hq9 (tk_w.no ht_ld26 (by decide))
  have hj13 := hj13.call hq9 (tk_w.no ht0 (by decide))
  have hj15 := hj15.call hq9 (tk_w.no ht0 (by decide))
  have hM := hM.frame (H1 := H) (fun q hq => hq9 q (hM.lt hq) (fun h => hsep q h.1 hq))
  refine lv_pop hx hb dL_law_801 rfl ?_
  refine lv_aload_n hx hb dL_law_802 rfl (lv_at hl 1 rfl) ?_
  refine lv_aload_n hx hb dL_law_803 rfl (lv_at hl 3 rfl) ?_
  refine lv_iload_n hx hb dL_law_804 rfl (lv_at hl 0 rfl) ?_
  refine lv_iconst (v := 1) hx hb dL_law_805 (by decide) ?_
  refine lv_iadd hx hb dL_law_806 ?_
  refine va_sld hx hb hX hbl hbA hS (lw_in hv hk1 (by omega) (by omega) (by omega) hL) dL_law_807 ?_
  refine fx_ti (v := x1) hx1 ?_
  refine mz_ViA (As := [.int x1]) (rest := []) ⟨hx, hb, hml, hown, htl⟩ hK hM hS (fun q h => hwge q h) (k_X13_duel l D cy ld ad am hD _ _ _ _ x1 hIF hIG hIR) ⟨callB_of 1 htl (wl_inL mw_1237) rfl rfl rfl (htl _ mw_5) (htl _ mw_1234) hd_yX13_duel ⟨(Nat.le_of_ble_eq_true rfl), (Nat.le_of_ble_eq_true rfl)⟩, htl _ mw_1235, htl _ mw_1236⟩ rfl hl.1 rfl (Nat.le_of_ble_eq_true rfl) dL_law_808 ⟨by show cells + 0 + 0 ≤ 600000; omega, by show slots + 0 + 0 ≤ 7302250; omega⟩ (fun r2 H locs F G R S hpo hM hS hz9 hq9 => ?_)
  have hall := fun (q : Nat) (hq : (t q).1 ≠ 0) => hq9 q (hG.lt hq) (hsep q hq)
  have hG := hG.frame (H1 := H) hall
  have hC := jC.all hT.1 hC hall
  have hKI := jK.all hT hKI hall
  have htp := htp.kept (hall _ (by rw [ht_ld26]; exact Nat.succ_ne_zero _))
  have hj13 := hj13.kept (hall _ (by rw [ht0]; exact Nat.succ_ne_zero _))
  have hj15 := hj15.kept (hall _ (by rw [ht0]; exact Nat.succ_ne_zero _))
  obtain ⟨hIF, hIG, hIR, hfr9, hrr9, hgr9⟩ := hpo
  have hR := hR.rel (rK3.refl (hrr9 3 (by decide)))
  have hKI : jK D ld (R 4) (R 5) H := by rw [hrr9 4 (by decide), hrr9 5 (by decide)]; exact hKI
  have eF13 := (hfr9 13 (by decide)).trans ey0
  have htr : ∀ j : Nat, (j : Int) < y0.toInt → ft j = R 12 j := by rw [hrr9 12 (by decide)]; exact htr
  have eF11 := (hfr9 11 (by decide)).trans ey5
  have hJ9 : lw_J D ld t a0 F R H := ⟨hT, ⟨_, _, _, _, _, _, _, _, _, _, hC, hR⟩, hKI, ⟨_, htp, by rw [eF13]; exact htr⟩, by rw [eF13]; exact hj13, by rw [eF11]; exact hj15⟩
  refine lv_pop hx hb dL_law_811 rfl ?_
  refine lv_goto (tgt := 1375) hx hb dL_law_812 (by decide) ?_
  refine W.widen (k := cells + 7) (n := slots + 1106) (by exact Nat.le_add_right _ _) (by exact Nat.le_add_right _ _) ?_
  exact kk t F G R S H locs ls ⟨ht0, hG, hge, hD, hM, ⟨hIF, hIG, hIR⟩, hsep, hwge⟩ hJ9 hS hl
set_option maxHeartbeats 8000000 in
set_option maxRecDepth 100000 in
theorem law_21 {p : Program} {l : Launch} {e : Env} {s : State} {m : MethodId} {below : List Frame} {meth : Method} {c : Code} {b L : Nat} {xs : Nat → Int32} (C0 : lw_At p s m meth c b L xs) (htl : ∀ w ∈ wsA, w.before #[Value.ref b] s = true) {D : va_G} {cy : Nat → ClassId} {ld ad : Nat → Nat} (hK : kk_K D cy ld s) (hZ0 : tk_Z ld (fun _ => (0, 0, 0)) s) {t : tk_T} {a0 am : Nat} {F : Nat → Int32} {G : Nat → Int64} {R : Nat → Nat → Int32} {S : Nat → Nat → Int64} {H : Heap} {locs : List Loc} (hI : lw_I D cy ld t ad a0 am s.heap.size F G R S H) (hJ : lw_J D ld t a0 F R H) (hS : va_S (fun q : Nat => s.heap.size ≤ q) s.heap H locs) (hS0 : s.heap.size ≤ H.size) (hL : L ≤ 3072) {v : Int32} {i : Int} (hv : v.toInt = i) (hi : 0 ≤ i) (hiL : i + 6 ≤ (L : Int)) {cells slots : Nat} (hc : cells + 7 ≤ 600000) (hs : slots + 1106 ≤ 7302250) (ls : Array Slot) (hl : lv_has ls 4 [(3, .int v), (2, .ref am), (1, .ref a0), (0, .ref b)]) (kk : ∀ (t : tk_T) (F : Nat → Int32) (G : Nat → Int64) (R : Nat → Nat → Int32) (S : Nat → Nat → Int64) (H : Heap) (locs : List Loc) (ls : Array Slot), lw_I D cy ld t ad a0 am s.heap.size F G R S H → lw_J D ld t a0 F R H → va_S (fun q : Nat => s.heap.size ≤ q) s.heap H locs → lv_has ls 4 [(3, .int v), (2, .ref am), (1, .ref a0), (0, .ref b)] → W p l e room_1 s m #[Value.ref b] below meth c H locs (cells + 7) (slots + 1106) (lw_Z below #[Value.ref b] s) (F0 m 1375 ls [])) : W p l e room_1 s m #[Value.ref b] below meth c H locs (cells) (slots) (lw_Z below #[Value.ref b] s) (F0 m 815 ls []) := by
  obtain ⟨hx, hb, hr, hml, hown, hts, hX, hbl, hlocks, hgv⟩ := id C0
  have hown : s.vm.findClass RL = some m.cls := hown
  have hbA : ¬ (fun q : Nat => s.heap.size ≤ q) b := Nat.not_le.mpr hbl
  obtain ⟨ht0, hG, hge, hD, hM, ⟨hIF, hIG, hIR⟩, hsep, hwge⟩ := hI
  have hZ := lw_Z0 hZ0 hge
  have hAZ : ∀ q : Nat, q < s.heap.size → (fun q : Nat => s.heap.size ≤ q) q → (t q).1 ≠ 0 := fun q h1 h2 => absurd h2 (Nat.not_le.mpr h1)
  obtain ⟨hT, ⟨n0, n1, n2, n3, fh, fs, fk, q1, q2, q3, hC, hR⟩, hKI, ⟨ft, htp, htr⟩, hj13, hj15⟩ := hJ
  obtain ⟨⟨e30, e31, e32, e33⟩, ⟨⟨b0, b1⟩, ⟨b2, b3⟩, ⟨b4, b5⟩, b6, b7⟩, -⟩ := id hR
  obtain ⟨y0, ey0⟩ : ∃ z : Int32, F 13 = z := ⟨_, rfl⟩
  have hy0 : 0 ≤ y0.toInt ∧ y0.toInt ≤ 400 := hIF.at ey0
  rw [ey0] at hj13 htr
  obtain ⟨y5, ey5⟩ : ∃ z : Int32, F 11 = z := ⟨_, rfl⟩
  rw [ey5] at hj15
  have hy5 := tk_rng y5
  obtain ⟨ht_ld20, ht_ld70, ht_ld80, ht_ld90, ht_ld100, ht_ld110, ht_ld120⟩ := id hT.1
  obtain ⟨ht_ld24, ht_ld76, ht_ld86, ht_ld96, ht_ld106, ht_ld116, ht_ld126⟩ := id hT.2.1
  obtain ⟨ht_ld25, ht_ld77, ht_ld87, ht_ld97, ht_ld107, ht_ld117, ht_ld127⟩ := id hT.2.2.1
  have ht_ld26 := hT.2.2.2.1
  have ht_ld49 := hT.2.2.2.2
  obtain ⟨x1, hx1⟩ : ∃ z, xs (v + 1 : Int32).toNatClampNeg = z := ⟨_, rfl⟩
  have hk1 : (1 : Int32).toInt = 1 := by decide
  refine lv_aload_n hx hb dL_law_815 rfl (lv_at hl 2 rfl) ?_
  refine lv_aload_n hx hb dL_law_816 rfl (lv_at hl 3 rfl) ?_
  refine lv_iload_n hx hb dL_law_817 rfl (lv_at hl 0 rfl) ?_
  refine lv_iconst (v := 1) hx hb dL_law_818 (by decide) ?_
  refine lv_iadd hx hb dL_law_819 ?_
  refine va_sld hx hb hX hbl hbA hS (lw_in hv hk1 (by omega) (by omega) (by omega) hL) dL_law_820 ?_
  refine fx_ti (v := x1) hx1 ?_
  refine tk_ViA (As := [.int x1]) (rest := []) (ci := 12) ⟨hx, hb, hml, hown, htl⟩ hK hG hZ hAZ hS (k_X12_sing_x l D cy ld t a0 x1 y0 y5 ht0 (by omega) (by omega) (by omega) (by omega)) ⟨hj13, hj15⟩ ⟨callB_of 1 htl (wl_inL mw_1242) rfl rfl rfl (htl _ mw_2) (htl _ mw_1239) hd_yX12_sing ⟨(Nat.le_of_ble_eq_true rfl), (Nat.le_of_ble_eq_true rfl)⟩, htl _ mw_1240, htl _ mw_1241⟩ ht0 (by decide) tk_no rfl (fun q h => hge q h.1) rfl hl.1 rfl (Nat.le_of_ble_eq_true rfl) dL_law_821 ⟨by show cells + 0 ≤ 600000; omega, by show slots + 0 ≤ 7302250; omega⟩ (fun r1 H locs hpo1 hG hS hz9 hq9 => ?_)
  obtain ⟨hj13, hj15⟩ := hpo1
  have hC := jC.call hT.1 hC hq9 (by decide)
  have hKI := jK.call hT hKI hq9 (by decide) (by decide) (by decide)
  have htp := htp.call hq9 (tk_w.no ht_ld26 (by decide))
  have hM := hM.frame (H1 := H) (fun q hq => hq9 q (hM.lt hq) (fun h => hsep q h.1 hq))
  refine lv_pop hx hb dL_law_824 rfl ?_
  refine lv_aload_n hx hb dL_law_825 rfl (lv_at hl 1 rfl) ?_
  refine lv_aload_n hx hb dL_law_826 rfl (lv_at hl 3 rfl) ?_
  refine lv_iload_n hx hb dL_law_827 rfl (lv_at hl 0 rfl) ?_
  refine lv_iconst (v := 1) hx hb dL_law_828 (by decide) ?_
  refine lv_iadd hx hb dL_law_829 ?_
  refine va_sld hx hb hX hbl hbA hS (lw_in hv hk1 (by omega) (by omega) (by omega) hL) dL_law_830 ?_
  refine fx_ti (v := x1) hx1 ?_
  refine mz_ViA (As := [.int x1]) (rest := []) ⟨hx, hb, hml, hown, htl⟩ hK hM hS (fun q h => hwge q h) (k_X13_sing l D cy ld ad am hD _ _ _ _ x1 hIF hIG hIR) ⟨callB_of 1 htl (wl_inL mw_1247) rfl rfl rfl (htl _ mw_5) (htl _ mw_1244) hd_yX13_sing ⟨(Nat.le_of_ble_eq_true rfl), (Nat.le_of_ble_eq_true rfl)⟩, htl _ mw_1245, htl _ mw_1246⟩ rfl hl.1 rfl (Nat.le_of_ble_eq_true rfl) dL_law_831 ⟨by show cells + 0 + 0 ≤ 600000; omega, by show slots + 0 + 0 ≤ 7302250; omega⟩ (fun r2 H locs F G R S hpo hM hS hz9 hq9 => ?_)
  have hall := fun (q : Nat) (hq : (t q).1 ≠ 0) => hq9 q (hG.lt hq) (hsep q hq)
  have hG := hG.frame (H1 := H) hall
  have hC := jC.all hT.1 hC hall
  have hKI := jK.all hT hKI hall
  have htp := htp.kept (hall _ (by rw [ht_ld26]; exact Nat.succ_ne_zero _))
  have hj13 := hj13.kept (hall _ (by rw [ht0]; exact Nat.succ_ne_zero _))
  have hj15 := hj15.kept (hall _ (by rw [ht0]; exact Nat.succ_ne_zero _))
  obtain ⟨hIF, hIG, hIR, hfr9, hrr9, hgr9, hrel9, hp2_0, hp2_1⟩ := hpo
  have hR := hR.rel hrel9.k3
  have hKI : jK D ld (R 4) (R 5) H := by rw [hrr9 4 (by decide), hrr9 5 (by decide)]; exact hKI
  have eF13 := (hfr9 13 (by decide)).trans ey0
  have htr : ∀ j : Nat, (j : Int) < y0.toInt → ft j = R 12 j := by rw [hrr9 12 (by decide)]; exact htr
  have eF11 := (hfr9 11 (by decide)).trans ey5
  have hJ9 : lw_J D ld t a0 F R H := ⟨hT, ⟨_, _, _, _, _, _, _, _, _, _, hC, hR⟩, hKI, ⟨_, htp, by rw [eF13]; exact htr⟩, by rw [eF13]; exact hj13, by rw [eF11]; exact hj15⟩
  refine lv_pop hx hb dL_law_834 rfl ?_
  refine lv_goto (tgt := 1375) hx hb dL_law_835 (by decide) ?_
  refine W.widen (k := cells + 7) (n := slots + 1106) (by exact Nat.le_add_right _ _) (by exact Nat.le_add_right _ _) ?_
  exact kk t F G R S H locs ls ⟨ht0, hG, hge, hD, hM, ⟨hIF, hIG, hIR⟩, hsep, hwge⟩ hJ9 hS hl
set_option maxHeartbeats 8000000 in
set_option maxRecDepth 100000 in
theorem law_22 {p : Program} {l : Launch} {e : Env} {s : State} {m : MethodId} {below : List Frame} {meth : Method} {c : Code} {b L : Nat} {xs : Nat → Int32} (C0 : lw_At p s m meth c b L xs) (htl : ∀ w ∈ wsA, w.before #[Value.ref b] s = true) {D : va_G} {cy : Nat → ClassId} {ld ad : Nat → Nat} (hK : kk_K D cy ld s) (hZ0 : tk_Z ld (fun _ => (0, 0, 0)) s) {t : tk_T} {a0 am : Nat} {F : Nat → Int32} {G : Nat → Int64} {R : Nat → Nat → Int32} {S : Nat → Nat → Int64} {H : Heap} {locs : List Loc} (hI : lw_I D cy ld t ad a0 am s.heap.size F G R S H) (hJ : lw_J D ld t a0 F R H) (hS : va_S (fun q : Nat => s.heap.size ≤ q) s.heap H locs) (hS0 : s.heap.size ≤ H.size) (hL : L ≤ 3072) {v : Int32} {i : Int} (hv : v.toInt = i) (hi : 0 ≤ i) (hiL : i + 6 ≤ (L : Int)) {cells slots : Nat} (hc : cells + 7 ≤ 600000) (hs : slots + 1106 ≤ 7302250) (ls : Array Slot) (hl : lv_has ls 4 [(3, .int v), (2, .ref am), (1, .ref a0), (0, .ref b)]) (kk : ∀ (t : tk_T) (F : Nat → Int32) (G : Nat → Int64) (R : Nat → Nat → Int32) (S : Nat → Nat → Int64) (H : Heap) (locs : List Loc) (ls : Array Slot), lw_I D cy ld t ad a0 am s.heap.size F G R S H → lw_J D ld t a0 F R H → va_S (fun q : Nat => s.heap.size ≤ q) s.heap H locs → lv_has ls 4 [(3, .int v), (2, .ref am), (1, .ref a0), (0, .ref b)] → W p l e room_1 s m #[Value.ref b] below meth c H locs (cells + 7) (slots + 1106) (lw_Z below #[Value.ref b] s) (F0 m 1375 ls [])) : W p l e room_1 s m #[Value.ref b] below meth c H locs (cells) (slots) (lw_Z below #[Value.ref b] s) (F0 m 838 ls []) := by
  obtain ⟨hx, hb, hr, hml, hown, hts, hX, hbl, hlocks, hgv⟩ := id C0
  have hown : s.vm.findClass RL = some m.cls := hown
  have hbA : ¬ (fun q : Nat => s.heap.size ≤ q) b := Nat.not_le.mpr hbl
  obtain ⟨ht0, hG, hge, hD, hM, ⟨hIF, hIG, hIR⟩, hsep, hwge⟩ := hI
  have hZ := lw_Z0 hZ0 hge
  have hAZ : ∀ q : Nat, q < s.heap.size → (fun q : Nat => s.heap.size ≤ q) q → (t q).1 ≠ 0 := fun q h1 h2 => absurd h2 (Nat.not_le.mpr h1)
  obtain ⟨hT, ⟨n0, n1, n2, n3, fh, fs, fk, q1, q2, q3, hC, hR⟩, hKI, ⟨ft, htp, htr⟩, hj13, hj15⟩ := hJ
  obtain ⟨⟨e30, e31, e32, e33⟩, ⟨⟨b0, b1⟩, ⟨b2, b3⟩, ⟨b4, b5⟩, b6, b7⟩, -⟩ := id hR
  obtain ⟨y0, ey0⟩ : ∃ z : Int32, F 13 = z := ⟨_, rfl⟩
  have hy0 : 0 ≤ y0.toInt ∧ y0.toInt ≤ 400 := hIF.at ey0
  rw [ey0] at hj13 htr
  obtain ⟨y5, ey5⟩ : ∃ z : Int32, F 11 = z := ⟨_, rfl⟩
  rw [ey5] at hj15
  have hy5 := tk_rng y5
  obtain ⟨ht_ld20, ht_ld70, ht_ld80, ht_ld90, ht_ld100, ht_ld110, ht_ld120⟩ := id hT.1
  obtain ⟨ht_ld24, ht_ld76, ht_ld86, ht_ld96, ht_ld106, ht_ld116, ht_ld126⟩ := id hT.2.1
  obtain ⟨ht_ld25, ht_ld77, ht_ld87, ht_ld97, ht_ld107, ht_ld117, ht_ld127⟩ := id hT.2.2.1
  have ht_ld26 := hT.2.2.2.1
  have ht_ld49 := hT.2.2.2.2
  refine lv_aload_n hx hb dL_law_838 rfl (lv_at hl 2 rfl) ?_
  refine tk_ViA (As := []) (rest := []) (ci := 12) ⟨hx, hb, hml, hown, htl⟩ hK hG hZ hAZ hS (k_X12_part_x l D cy ld t a0 y0 y5 ht0 (by omega) (by omega) (by omega) (by omega)) ⟨hj13, hj15⟩ ⟨callB_of 0 htl (wl_inL mw_1251) rfl rfl rfl (htl _ mw_2) (htl _ mw_1248) hd_yX12_part ⟨(Nat.le_of_ble_eq_true rfl), (Nat.le_of_ble_eq_true rfl)⟩, htl _ mw_1249, htl _ mw_1250⟩ ht0 (by decide) tk_no rfl (fun q h => hge q h.1) rfl hl.1 rfl (Nat.le_of_ble_eq_true rfl) dL_law_839 ⟨by show cells + 0 ≤ 600000; omega, by show slots + 0 ≤ 7302250; omega⟩ (fun r1 H locs hpo1 hG hS hz9 hq9 => ?_)
  obtain ⟨hj13, hj15⟩ := hpo1
  have hC := jC.call hT.1 hC hq9 (by decide)
  have hKI := jK.call hT hKI hq9 (by decide) (by decide) (by decide)
  have htp := htp.call hq9 (tk_w.no ht_ld26 (by decide))
  have hM := hM.frame (H1 := H) (fun q hq => hq9 q (hM.lt hq) (fun h => hsep q h.1 hq))
  refine lv_pop hx hb dL_law_842 rfl ?_
  refine lv_aload_n hx hb dL_law_843 rfl (lv_at hl 1 rfl) ?_
  refine mz_ViA (As := []) (rest := []) ⟨hx, hb, hml, hown, htl⟩ hK hM hS (fun q h => hwge q h) (k_X13_part l D cy ld ad am hD _ _ _ _ hIF hIG hIR) ⟨callB_of 0 htl (wl_inL mw_1256) rfl rfl rfl (htl _ mw_5) (htl _ mw_1253) hd_yX13_part ⟨(Nat.le_of_ble_eq_true rfl), (Nat.le_of_ble_eq_true rfl)⟩, htl _ mw_1254, htl _ mw_1255⟩ rfl hl.1 rfl (Nat.le_of_ble_eq_true rfl) dL_law_844 ⟨by show cells + 0 + 0 ≤ 600000; omega, by show slots + 0 + 0 ≤ 7302250; omega⟩ (fun r2 H locs F G R S hpo hM hS hz9 hq9 => ?_)
  have hall := fun (q : Nat) (hq : (t q).1 ≠ 0) => hq9 q (hG.lt hq) (hsep q hq)
  have hG := hG.frame (H1 := H) hall
  have hC := jC.all hT.1 hC hall
  have hKI := jK.all hT hKI hall
  have htp := htp.kept (hall _ (by rw [ht_ld26]; exact Nat.succ_ne_zero _))
  have hj13 := hj13.kept (hall _ (by rw [ht0]; exact Nat.succ_ne_zero _))
  have hj15 := hj15.kept (hall _ (by rw [ht0]; exact Nat.succ_ne_zero _))
  obtain ⟨hIF, hIG, hIR, hfr9, hrr9, hgr9, hrel9, hp2_0, hp2_1⟩ := hpo
  have hR := hR.rel hrel9.k3
  have hKI : jK D ld (R 4) (R 5) H := by rw [hrr9 4 (by decide), hrr9 5 (by decide)]; exact hKI
  have eF13 := (hfr9 13 (by decide)).trans ey0
  have htr : ∀ j : Nat, (j : Int) < y0.toInt → ft j = R 12 j := by rw [hrr9 12 (by decide)]; exact htr
  have eF11 := (hfr9 11 (by decide)).trans ey5
  have hJ9 : lw_J D ld t a0 F R H := ⟨hT, ⟨_, _, _, _, _, _, _, _, _, _, hC, hR⟩, hKI, ⟨_, htp, by rw [eF13]; exact htr⟩, by rw [eF13]; exact hj13, by rw [eF11]; exact hj15⟩
  refine lv_pop hx hb dL_law_847 rfl ?_
  refine lv_goto (tgt := 1375) hx hb dL_law_848 (by decide) ?_
  refine W.widen (k := cells + 7) (n := slots + 1106) (by exact Nat.le_add_right _ _) (by exact Nat.le_add_right _ _) ?_
  exact kk t F G R S H locs ls ⟨ht0, hG, hge, hD, hM, ⟨hIF, hIG, hIR⟩, hsep, hwge⟩ hJ9 hS hl
set_option maxHeartbeats 8000000 in
set_option maxRecDepth 100000 in
theorem law_23 {p : Program} {l : Launch} {e : Env} {s : State} {m : MethodId} {below : List Frame} {meth : Method} {c : Code} {b L : Nat} {xs : Nat → Int32} (C0 : lw_At p s m meth c b L xs) (htl : ∀ w ∈ wsA, w.before #[Value.ref b] s = true) {D : va_G} {cy : Nat → ClassId} {ld ad : Nat → Nat} (hK : kk_K D cy ld s) (hZ0 : tk_Z ld (fun _ => (0, 0, 0)) s) {t : tk_T} {a0 am : Nat} {F : Nat → Int32} {G : Nat → Int64} {R : Nat → Nat → Int32} {S : Nat → Nat → Int64} {H : Heap} {locs : List Loc} (hI : lw_I D cy ld t ad a0 am s.heap.size F G R S H) (hJ : lw_J D ld t a0 F R H) (hS : va_S (fun q : Nat => s.heap.size ≤ q) s.heap H locs) (hS0 : s.heap.size ≤ H.size) (hL : L ≤ 3072) {v : Int32} {i : Int} (hv : v.toInt = i) (hi : 0 ≤ i) (hiL : i + 6 ≤ (L : Int)) {cells slots : Nat} (hc : cells + 7 ≤ 600000) (hs : slots + 1106 ≤ 7302250) (ls : Array Slot) (hl : lv_has ls 4 [(3, .int v), (2, .ref am), (1, .ref a0), (0, .ref b)]) (kk : ∀ (t : tk_T) (F : Nat → Int32) (G : Nat → Int64) (R : Nat → Nat → Int32) (S : Nat → Nat → Int64) (H : Heap) (locs : List Loc) (ls : Array Slot), lw_I D cy ld t ad a0 am s.heap.size F G R S H → lw_J D ld t a0 F R H → va_S (fun q : Nat => s.heap.size ≤ q) s.heap H locs → lv_has ls 4 [(3, .int v), (2, .ref am), (1, .ref a0), (0, .ref b)] → W p l e room_1 s m #[Value.ref b] below meth c H locs (cells + 7) (slots + 1106) (lw_Z below #[Value.ref b] s) (F0 m 1375 ls [])) : W p l e room_1 s m #[Value.ref b] below meth c H locs (cells) (slots) (lw_Z below #[Value.ref b] s) (F0 m 851 ls []) := by
  obtain ⟨hx, hb, hr, hml, hown, hts, hX, hbl, hlocks, hgv⟩ := id C0
  have hown : s.vm.findClass RL = some m.cls := hown
  have hbA : ¬ (fun q : Nat => s.heap.size ≤ q) b := Nat.not_le.mpr hbl
  obtain ⟨ht0, hG, hge, hD, hM, ⟨hIF, hIG, hIR⟩, hsep, hwge⟩ := hI
  have hZ := lw_Z0 hZ0 hge
  have hAZ : ∀ q : Nat, q < s.heap.size → (fun q : Nat => s.heap.size ≤ q) q → (t q).1 ≠ 0 := fun q h1 h2 => absurd h2 (Nat.not_le.mpr h1)
  obtain ⟨hT, ⟨n0, n1, n2, n3, fh, fs, fk, q1, q2, q3, hC, hR⟩, hKI, ⟨ft, htp, htr⟩, hj13, hj15⟩ := hJ
  obtain ⟨⟨e30, e31, e32, e33⟩, ⟨⟨b0, b1⟩, ⟨b2, b3⟩, ⟨b4, b5⟩, b6, b7⟩, -⟩ := id hR
  obtain ⟨y0, ey0⟩ : ∃ z : Int32, F 13 = z := ⟨_, rfl⟩
  have hy0 : 0 ≤ y0.toInt ∧ y0.toInt ≤ 400 := hIF.at ey0
  rw [ey0] at hj13 htr
  obtain ⟨y5, ey5⟩ : ∃ z : Int32, F 11 = z := ⟨_, rfl⟩
  rw [ey5] at hj15
  have hy5 := tk_rng y5
  obtain ⟨ht_ld20, ht_ld70, ht_ld80, ht_ld90, ht_ld100, ht_ld110, ht_ld120⟩ := id hT.1
  obtain ⟨ht_ld24, ht_ld76, ht_ld86, ht_ld96, ht_ld106, ht_ld116, ht_ld126⟩ := id hT.2.1
  obtain ⟨ht_ld25, ht_ld77, ht_ld87, ht_ld97, ht_ld107, ht_ld117, ht_ld127⟩ := id hT.2.2.1
  have ht_ld26 := hT.2.2.2.1
  have ht_ld49 := hT.2.2.2.2
  refine lv_aload_n hx hb dL_law_851 rfl (lv_at hl 2 rfl) ?_
  refine tk_ViA (As := []) (rest := []) (ci := 12) ⟨hx, hb, hml, hown, htl⟩ hK hG hZ hAZ hS (k_X12_dawn_x l D cy ld t a0 y0 y5 ht0 (by omega) (by omega) (by omega) (by omega)) ⟨hj13, hj15⟩ ⟨callB_of 0 htl (wl_inL mw_1260) rfl rfl rfl (htl _ mw_2) (htl _ mw_1257) hd_yX12_dawn ⟨(Nat.le_of_ble_eq_true rfl), (Nat.le_of_ble_eq_true rfl)⟩, htl _ mw_1258, htl _ mw_1259⟩ ht0 (by decide) tk_no rfl (fun q h => hge q h.1) rfl hl.1 rfl (Nat.le_of_ble_eq_true rfl) dL_law_852 ⟨by show cells + 0 ≤ 600000; omega, by show slots + 0 ≤ 7302250; omega⟩ (fun r1 H locs hpo1 hG hS hz9 hq9 => ?_)
  obtain ⟨hj13, hj15⟩ := hpo1
  have hC := jC.call hT.1 hC hq9 (by decide)
  have hKI := jK.call hT hKI hq9 (by decide) (by decide) (by decide)
  have htp := htp.call hq9 (tk_w.no ht_ld26 (by decide))
  have hM := hM.frame (H1 := H) (fun q hq => hq9 q (hM.lt hq) (fun h => hsep q h.1 hq))
  refine lv_pop hx hb dL_law_855 rfl ?_
  refine lv_aload_n hx hb dL_law_856 rfl (lv_at hl 1 rfl) ?_
  refine mz_ViA (As := []) (rest := []) ⟨hx, hb, hml, hown, htl⟩ hK hM hS (fun q h => hwge q h) (k_X13_dawn l D cy ld ad am hD _ _ _ _ hIF hIG hIR) ⟨callB_of 0 htl (wl_inL mw_1265) rfl rfl rfl (htl _ mw_5) (htl _ mw_1262) hd_yX13_dawn ⟨(Nat.le_of_ble_eq_true rfl), (Nat.le_of_ble_eq_true rfl)⟩, htl _ mw_1263, htl _ mw_1264⟩ rfl hl.1 rfl (Nat.le_of_ble_eq_true rfl) dL_law_857 ⟨by show cells + 0 + 0 ≤ 600000; omega, by show slots + 0 + 0 ≤ 7302250; omega⟩ (fun r2 H locs F G R S hpo hM hS hz9 hq9 => ?_)
  have hall := fun (q : Nat) (hq : (t q).1 ≠ 0) => hq9 q (hG.lt hq) (hsep q hq)
  have hG := hG.frame (H1 := H) hall
  have hC := jC.all hT.1 hC hall
  have hKI := jK.all hT hKI hall
  have htp := htp.kept (hall _ (by rw [ht_ld26]; exact Nat.succ_ne_zero _))
  have hj13 := hj13.kept (hall _ (by rw [ht0]; exact Nat.succ_ne_zero _))
  have hj15 := hj15.kept (hall _ (by rw [ht0]; exact Nat.succ_ne_zero _))
  obtain ⟨hIF, hIG, hIR, hfr9, hrr9, hgr9, hrel9, hp2_0, hp2_1⟩ := hpo
  have hR := hR.rel hrel9.k3
  have hKI : jK D ld (R 4) (R 5) H := by rw [hrr9 4 (by decide), hrr9 5 (by decide)]; exact hKI
  have eF13 := (hfr9 13 (by decide)).trans ey0
  have htr : ∀ j : Nat, (j : Int) < y0.toInt → ft j = R 12 j := by rw [hrr9 12 (by decide)]; exact htr
  have eF11 := (hfr9 11 (by decide)).trans ey5
  have hJ9 : lw_J D ld t a0 F R H := ⟨hT, ⟨_, _, _, _, _, _, _, _, _, _, hC, hR⟩, hKI, ⟨_, htp, by rw [eF13]; exact htr⟩, by rw [eF13]; exact hj13, by rw [eF11]; exact hj15⟩
  refine lv_pop hx hb dL_law_860 rfl ?_
  refine lv_goto (tgt := 1375) hx hb dL_law_861 (by decide) ?_
  refine W.widen (k := cells + 7) (n := slots + 1106) (by exact Nat.le_add_right _ _) (by exact Nat.le_add_right _ _) ?_
  exact kk t F G R S H locs ls ⟨ht0, hG, hge, hD, hM, ⟨hIF, hIG, hIR⟩, hsep, hwge⟩ hJ9 hS hl
set_option maxHeartbeats 8000000 in
set_option maxRecDepth 100000 in
theorem law_24 {p : Program} {l : Launch} {e : Env} {s : State} {m : MethodId} {below : List Frame} {meth : Method} {c : Code} {b L : Nat} {xs : Nat → Int32} (C0 : lw_At p s m meth c b L xs) (htl : ∀ w ∈ wsA, w.before #[Value.ref b] s = true) {D : va_G} {cy : Nat → ClassId} {ld ad : Nat → Nat} (hK : kk_K D cy ld s) (hZ0 : tk_Z ld (fun _ => (0, 0, 0)) s) {t : tk_T} {a0 am : Nat} {F : Nat → Int32} {G : Nat → Int64} {R : Nat → Nat → Int32} {S : Nat → Nat → Int64} {H : Heap} {locs : List Loc} (hI : lw_I D cy ld t ad a0 am s.heap.size F G R S H) (hJ : lw_J D ld t a0 F R H) (hS : va_S (fun q : Nat => s.heap.size ≤ q) s.heap H locs) (hS0 : s.heap.size ≤ H.size) (hL : L ≤ 3072) {v : Int32} {i : Int} (hv : v.toInt = i) (hi : 0 ≤ i) (hiL : i + 6 ≤ (L : Int)) {cells slots : Nat} (hc : cells + 7 ≤ 600000) (hs : slots + 1106 ≤ 7302250) (ls : Array Slot) (hl : lv_has ls 4 [(3, .int v), (2, .ref am), (1, .ref a0), (0, .ref b)]) (kk : ∀ (t : tk_T) (F : Nat → Int32) (G : Nat → Int64) (R : Nat → Nat → Int32) (S : Nat → Nat → Int64) (H : Heap) (locs : List Loc) (ls : Array Slot), lw_I D cy ld t ad a0 am s.heap.size F G R S H → lw_J D ld t a0 F R H → va_S (fun q : Nat => s.heap.size ≤ q) s.heap H locs → lv_has ls 4 [(3, .int v), (2, .ref am), (1, .ref a0), (0, .ref b)] → W p l e room_1 s m #[Value.ref b] below meth c H locs (cells + 7) (slots + 1106) (lw_Z below #[Value.ref b] s) (F0 m 1375 ls [])) : W p l e room_1 s m #[Value.ref b] below meth c H locs (cells) (slots) (lw_Z below #[Value.ref b] s) (F0 m 864 ls []) := by
  obtain ⟨hx, hb, hr, hml, hown, hts, hX, hbl, hlocks, hgv⟩ := id C0
  have hown : s.vm.findClass RL = some m.cls := hown
  have hbA : ¬ (fun q : Nat => s.heap.size ≤ q) b := Nat.not_le.mpr hbl
  obtain ⟨ht0, hG, hge, hD, hM, ⟨hIF, hIG, hIR⟩, hsep, hwge⟩ := hI
  have hZ := lw_Z0 hZ0 hge
  have hAZ : ∀ q : Nat, q < s.heap.size → (fun q : Nat => s.heap.size ≤ q) q → (t q).1 ≠ 0 := fun q h1 h2 => absurd h2 (Nat.not_le.mpr h1)
  obtain ⟨hT, ⟨n0, n1, n2, n3, fh, fs, fk, q1, q2, q3, hC, hR⟩, hKI, ⟨ft, htp, htr⟩, hj13, hj15⟩ := hJ
  obtain ⟨⟨e30, e31, e32, e33⟩, ⟨⟨b0, b1⟩, ⟨b2, b3⟩, ⟨b4, b5⟩, b6, b7⟩, -⟩ := id hR
  obtain ⟨y0, ey0⟩ : ∃ z : Int32, F 13 = z := ⟨_, rfl⟩
  have hy0 : 0 ≤ y0.toInt ∧ y0.toInt ≤ 400 := hIF.at ey0
  rw [ey0] at hj13 htr
  obtain ⟨y5, ey5⟩ : ∃ z : Int32, F 11 = z := ⟨_, rfl⟩
  rw [ey5] at hj15
  have hy5 := tk_rng y5
  obtain ⟨ht_ld20, ht_ld70, ht_ld80, ht_ld90, ht_ld100, ht_ld110, ht_ld120⟩ := id hT.1
  obtain ⟨ht_ld24, ht_ld76, ht_ld86, ht_ld96, ht_ld106, ht_ld116, ht_ld126⟩ := id hT.2.1
  obtain ⟨ht_ld25, ht_ld77, ht_ld87, ht_ld97, ht_ld107, ht_ld117, ht_ld127⟩ := id hT.2.2.1
  have ht_ld26 := hT.2.2.2.1
  have ht_ld49 := hT.2.2.2.2
  refine lv_aload_n hx hb dL_law_864 rfl (lv_at hl 2 rfl) ?_
  refine tk_ViA (As := []) (rest := []) (ci := 12) ⟨hx, hb, hml, hown, htl⟩ hK hG hZ hAZ hS (k_X12_undo_x l D cy ld t a0 y0 y5 ht0 (by omega) (by omega) (by omega) (by omega)) ⟨hj13, hj15⟩ ⟨callB_of 0 htl (wl_inL mw_1269) rfl rfl rfl (htl _ mw_2) (htl _ mw_1266) hd_yX12_undo ⟨(Nat.le_of_ble_eq_true rfl), (Nat.le_of_ble_eq_true rfl)⟩, htl _ mw_1267, htl _ mw_1268⟩ ht0 (by decide) tk_no rfl (fun q h => hge q h.1) rfl hl.1 rfl (Nat.le_of_ble_eq_true rfl) dL_law_865 ⟨by show cells + 0 ≤ 600000; omega, by show slots + 0 ≤ 7302250; omega⟩ (fun r1 H locs hpo1 hG hS hz9 hq9 => ?_)
  obtain ⟨hj13, hj15⟩ := hpo1
  have hC := jC.call hT.1 hC hq9 (by decide)
  have hKI := jK.call hT hKI hq9 (by decide) (by decide) (by decide)
  have htp := htp.call hq9 (tk_w.no ht_ld26 (by decide))
  have hM := hM.frame (H1 := H) (fun q hq => hq9 q (hM.lt hq) (fun h => hsep q h.1 hq))
  refine lv_pop hx hb dL_law_868 rfl ?_
  refine lv_aload_n hx hb dL_law_869 rfl (lv_at hl 1 rfl) ?_
  refine mz_ViA (As := []) (rest := []) ⟨hx, hb, hml, hown, htl⟩ hK hM hS (fun q h => hwge q h) (k_X13_undo l D cy ld ad am hD _ _ _ _ hIF hIG hIR) ⟨callB_of 0 htl (wl_inL mw_1277) rfl rfl rfl (htl _ mw_5) (htl _ mw_1274) hd_yX13_undo ⟨(Nat.le_of_ble_eq_true rfl), (Nat.le_of_ble_eq_true rfl)⟩, htl _ mw_1275, htl _ mw_1276⟩ rfl hl.1 rfl (Nat.le_of_ble_eq_true rfl) dL_law_870 ⟨by show cells + 0 + 0 ≤ 600000; omega, by show slots + 0 + 0 ≤ 7302250; omega⟩ (fun r2 H locs F G R S hpo hM hS hz9 hq9 => ?_)
  have hall := fun (q : Nat) (hq : (t q).1 ≠ 0) => hq9 q (hG.lt hq) (hsep q hq)
  have hG := hG.frame (H1 := H) hall
  have hC := jC.all hT.1 hC hall
  have hKI := jK.all hT hKI hall
  have htp := htp.kept (hall _ (by rw [ht_ld26]; exact Nat.succ_ne_zero _))
  have hj13 := hj13.kept (hall _ (by rw [ht0]; exact Nat.succ_ne_zero _))
  have hj15 := hj15.kept (hall _ (by rw [ht0]; exact Nat.succ_ne_zero _))
  obtain ⟨hIF, hIG, hIR, hfr9, hrr9, hgr9, hrel9, hp2_0, hp2_1⟩ := hpo
  have hR := hR.rel hrel9.k3
  have hKI : jK D ld (R 4) (R 5) H := by rw [hrr9 4 (by decide), hrr9 5 (by decide)]; exact hKI
  have eF13 := (hfr9 13 (by decide)).trans ey0
  have htr : ∀ j : Nat, (j : Int) < y0.toInt → ft j = R 12 j := by rw [hrr9 12 (by decide)]; exact htr
  have eF11 := (hfr9 11 (by decide)).trans ey5
  have hJ9 : lw_J D ld t a0 F R H := ⟨hT, ⟨_, _, _, _, _, _, _, _, _, _, hC, hR⟩, hKI, ⟨_, htp, by rw [eF13]; exact htr⟩, by rw [eF13]; exact hj13, by rw [eF11]; exact hj15⟩
  refine lv_pop hx hb dL_law_873 rfl ?_
  refine lv_goto (tgt := 1375) hx hb dL_law_874 (by decide) ?_
  refine W.widen (k := cells + 7) (n := slots + 1106) (by exact Nat.le_add_right _ _) (by exact Nat.le_add_right _ _) ?_
  exact kk t F G R S H locs ls ⟨ht0, hG, hge, hD, hM, ⟨hIF, hIG, hIR⟩, hsep, hwge⟩ hJ9 hS hl
set_option maxHeartbeats 8000000 in
set_option maxRecDepth 100000 in
theorem law_25 {p : Program} {l : Launch} {e : Env} {s : State} {m : MethodId} {below : List Frame} {meth : Method} {c : Code} {b L : Nat} {xs : Nat → Int32} (C0 : lw_At p s m meth c b L xs) (htl : ∀ w ∈ wsA, w.before #[Value.ref b] s = true) {D : va_G} {cy : Nat → ClassId} {ld ad : Nat → Nat} (hK : kk_K D cy ld s) (hZ0 : tk_Z ld (fun _ => (0, 0, 0)) s) {t : tk_T} {a0 am : Nat} {F : Nat → Int32} {G : Nat → Int64} {R : Nat → Nat → Int32} {S : Nat → Nat → Int64} {H : Heap} {locs : List Loc} (hI : lw_I D cy ld t ad a0 am s.heap.size F G R S H) (hJ : lw_J D ld t a0 F R H) (hS : va_S (fun q : Nat => s.heap.size ≤ q) s.heap H locs) (hS0 : s.heap.size ≤ H.size) (hL : L ≤ 3072) {v : Int32} {i : Int} (hv : v.toInt = i) (hi : 0 ≤ i) (hiL : i + 6 ≤ (L : Int)) {cells slots : Nat} (hc : cells + 7 ≤ 600000) (hs : slots + 1106 ≤ 7302250) (ls : Array Slot) (hl : lv_has ls 4 [(3, .int v), (2, .ref am), (1, .ref a0), (0, .ref b)]) (kk : ∀ (t : tk_T) (F : Nat → Int32) (G : Nat → Int64) (R : Nat → Nat → Int32) (S : Nat → Nat → Int64) (H : Heap) (locs : List Loc) (ls : Array Slot), lw_I D cy ld t ad a0 am s.heap.size F G R S H → lw_J D ld t a0 F R H → va_S (fun q : Nat => s.heap.size ≤ q) s.heap H locs → lv_has ls 4 [(3, .int v), (2, .ref am), (1, .ref a0), (0, .ref b)] → W p l e room_1 s m #[Value.ref b] below meth c H locs (cells + 7) (slots + 1106) (lw_Z below #[Value.ref b] s) (F0 m 1375 ls [])) : W p l e room_1 s m #[Value.ref b] below meth c H locs (cells) (slots) (lw_Z below #[Value.ref b] s) (F0 m 877 ls []) := by
  obtain ⟨hx, hb, hr, hml, hown, hts, hX, hbl, hlocks, hgv⟩ := id C0
  have hown : s.vm.findClass RL = some m.cls := hown
  have hbA : ¬ (fun q : Nat => s.heap.size ≤ q) b := Nat.not_le.mpr hbl
  obtain ⟨ht0, hG, hge, hD, hM, ⟨hIF, hIG, hIR⟩, hsep, hwge⟩ := hI
  have hZ := lw_Z0 hZ0 hge
  have hAZ : ∀ q : Nat, q < s.heap.size → (fun q : Nat => s.heap.size ≤ q) q → (t q).1 ≠ 0 := fun q h1 h2 => absurd h2 (Nat.not_le.mpr h1)
  obtain ⟨hT, ⟨n0, n1, n2, n3, fh, fs, fk, q1, q2, q3, hC, hR⟩, hKI, ⟨ft, htp, htr⟩, hj13, hj15⟩ := hJ
  obtain ⟨⟨e30, e31, e32, e33⟩, ⟨⟨b0, b1⟩, ⟨b2, b3⟩, ⟨b4, b5⟩, b6, b7⟩, -⟩ := id hR
  obtain ⟨y0, ey0⟩ : ∃ z : Int32, F 13 = z := ⟨_, rfl⟩
  have hy0 : 0 ≤ y0.toInt ∧ y0.toInt ≤ 400 := hIF.at ey0
  rw [ey0] at hj13 htr
  obtain ⟨y5, ey5⟩ : ∃ z : Int32, F 11 = z := ⟨_, rfl⟩
  rw [ey5] at hj15
  have hy5 := tk_rng y5
  obtain ⟨ht_ld20, ht_ld70, ht_ld80, ht_ld90, ht_ld100, ht_ld110, ht_ld120⟩ := id hT.1
  obtain ⟨ht_ld24, ht_ld76, ht_ld86, ht_ld96, ht_ld106, ht_ld116, ht_ld126⟩ := id hT.2.1
  obtain ⟨ht_ld25, ht_ld77, ht_ld87, ht_ld97, ht_ld107, ht_ld117, ht_ld127⟩ := id hT.2.2.1
  have ht_ld26 := hT.2.2.2.1
  have ht_ld49 := hT.2.2.2.2
  obtain ⟨x1, hx1⟩ : ∃ z, xs (v + 1 : Int32).toNatClampNeg = z := ⟨_, rfl⟩
  have hk1 : (1 : Int32).toInt = 1 := by decide
  obtain ⟨x2, hx2⟩ : ∃ z, xs (v + 2 : Int32).toNatClampNeg = z := ⟨_, rfl⟩
  have hk2 : (2 : Int32).toInt = 2 := by decide
  refine lv_aload_n hx hb dL_law_877 rfl (lv_at hl 2 rfl) ?_
  refine lv_aload_n hx hb dL_law_878 rfl (lv_at hl 3 rfl) ?_
  refine lv_iload_n hx hb dL_law_879 rfl (lv_at hl 0 rfl) ?_
  refine lv_iconst (v := 1) hx hb dL_law_880 (by decide) ?_
  refine lv_iadd hx hb dL_law_881 ?_
  refine va_sld hx hb hX hbl hbA hS (lw_in hv hk1 (by omega) (by omega) (by omega) hL) dL_law_882 ?_
  refine fx_ti (v := x1) hx1 ?_
  refine lv_aload_n hx hb dL_law_883 rfl (lv_at hl 3 rfl) ?_
  refine lv_iload_n hx hb dL_law_884 rfl (lv_at hl 0 rfl) ?_
  refine lv_iconst (v := 2) hx hb dL_law_885 (by decide) ?_
  refine lv_iadd hx hb dL_law_886 ?_
  refine va_sld hx hb hX hbl hbA hS (lw_in hv hk2 (by omega) (by omega) (by omega) hL) dL_law_887 ?_
  refine fx_ti (v := x2) hx2 ?_
  refine tk_ViA (As := [.int x1, .int x2]) (rest := []) (ci := 12) ⟨hx, hb, hml, hown, htl⟩ hK hG hZ hAZ hS (k_X12_game l D cy ld t a0 x1 x2 ht0) trivial ⟨callB_of 2 htl (wl_inL mw_1281) rfl rfl rfl (htl _ mw_2) (htl _ mw_1278) hd_yX12_game ⟨(Nat.le_of_ble_eq_true rfl), (Nat.le_of_ble_eq_true rfl)⟩, htl _ mw_1279, htl _ mw_1280⟩ ht0 (by decide) tk_no rfl (fun q h => hge q h.1) rfl hl.1 rfl (Nat.le_of_ble_eq_true rfl) dL_law_888 ⟨by show cells + 0 ≤ 600000; omega, by show slots + 0 ≤ 7302250; omega⟩ (fun r1 H locs hpo1 hG hS hz9 hq9 => ?_)
  have hC := jC.call hT.1 hC hq9 (by decide)
  have hKI := jK.call hT hKI hq9 (by decide) (by decide) (by decide)
  have htp := htp.call hq9 (tk_w.no ht_ld26 (by decide))
  have hj13 := hj13.call hq9 (tk_w.no ht0 (by decide))
  have hj15 := hj15.call hq9 (tk_w.no ht0 (by decide))
  have hM := hM.frame (H1 := H) (fun q hq => hq9 q (hM.lt hq) (fun h => hsep q h.1 hq))
  refine lv_pop hx hb dL_law_891 rfl ?_
  refine lv_aload_n hx hb dL_law_892 rfl (lv_at hl 1 rfl) ?_
  refine lv_aload_n hx hb dL_law_893 rfl (lv_at hl 3 rfl) ?_
  refine lv_iload_n hx hb dL_law_894 rfl (lv_at hl 0 rfl) ?_
  refine lv_iconst (v := 1) hx hb dL_law_895 (by decide) ?_
  refine lv_iadd hx hb dL_law_896 ?_
  refine va_sld hx hb hX hbl hbA hS (lw_in hv hk1 (by omega) (by omega) (by omega) hL) dL_law_897 ?_
  refine fx_ti (v := x1) hx1 ?_
  refine lv_aload_n hx hb dL_law_898 rfl (lv_at hl 3 rfl) ?_
  refine lv_iload_n hx hb dL_law_899 rfl (lv_at hl 0 rfl) ?_
  refine lv_iconst (v := 2) hx hb dL_law_900 (by decide) ?_
  refine lv_iadd hx hb dL_law_901 ?_
  refine va_sld hx hb hX hbl hbA hS (lw_in hv hk2 (by omega) (by omega) (by omega) hL) dL_law_902 ?_
  refine fx_ti (v := x2) hx2 ?_
  refine mz_ViA (As := [.int x1, .int x2]) (rest := []) ⟨hx, hb, hml, hown, htl⟩ hK hM hS (fun q h => hwge q h) (k_X13_game l D cy ld ad am hD _ _ _ _ x1 x2 hIF hIG hIR) ⟨callB_of 2 htl (wl_inL mw_1307) rfl rfl rfl (htl _ mw_5) (htl _ mw_1304) hd_yX13_game ⟨(Nat.le_of_ble_eq_true rfl), (Nat.le_of_ble_eq_true rfl)⟩, htl _ mw_1305, htl _ mw_1306⟩ rfl hl.1 rfl (Nat.le_of_ble_eq_true rfl) dL_law_903 ⟨by show cells + 0 + 0 ≤ 600000; omega, by show slots + 0 + 0 ≤ 7302250; omega⟩ (fun r2 H locs F G R S hpo hM hS hz9 hq9 => ?_)
  have hall := fun (q : Nat) (hq : (t q).1 ≠ 0) => hq9 q (hG.lt hq) (hsep q hq)
  have hG := hG.frame (H1 := H) hall
  have hC := jC.all hT.1 hC hall
  have hKI := jK.all hT hKI hall
  have htp := htp.kept (hall _ (by rw [ht_ld26]; exact Nat.succ_ne_zero _))
  have hj13 := hj13.kept (hall _ (by rw [ht0]; exact Nat.succ_ne_zero _))
  have hj15 := hj15.kept (hall _ (by rw [ht0]; exact Nat.succ_ne_zero _))
  obtain ⟨hIF, hIG, hIR, hfr9, hrr9, hgr9, hrel9⟩ := hpo
  have hR := hR.rel hrel9.k3
  have hKI : jK D ld (R 4) (R 5) H := by rw [hrr9 4 (by decide), hrr9 5 (by decide)]; exact hKI
  have eF13 := (hfr9 13 (by decide)).trans ey0
  have htr : ∀ j : Nat, (j : Int) < y0.toInt → ft j = R 12 j := by rw [hrr9 12 (by decide)]; exact htr
  have eF11 := (hfr9 11 (by decide)).trans ey5
  have hJ9 : lw_J D ld t a0 F R H := ⟨hT, ⟨_, _, _, _, _, _, _, _, _, _, hC, hR⟩, hKI, ⟨_, htp, by rw [eF13]; exact htr⟩, by rw [eF13]; exact hj13, by rw [eF11]; exact hj15⟩
  refine lv_pop hx hb dL_law_906 rfl ?_
  refine lv_goto (tgt := 1375) hx hb dL_law_907 (by decide) ?_
  refine W.widen (k := cells + 7) (n := slots + 1106) (by exact Nat.le_add_right _ _) (by exact Nat.le_add_right _ _) ?_
  exact kk t F G R S H locs ls ⟨ht0, hG, hge, hD, hM, ⟨hIF, hIG, hIR⟩, hsep, hwge⟩ hJ9 hS hl
set_option maxHeartbeats 8000000 in
set_option maxRecDepth 100000 in
theorem law_26 {p : Program} {l : Launch} {e : Env} {s : State} {m : MethodId} {below : List Frame} {meth : Method} {c : Code} {b L : Nat} {xs : Nat → Int32} (C0 : lw_At p s m meth c b L xs) (htl : ∀ w ∈ wsA, w.before #[Value.ref b] s = true) {D : va_G} {cy : Nat → ClassId} {ld ad : Nat → Nat} (hK : kk_K D cy ld s) (hZ0 : tk_Z ld (fun _ => (0, 0, 0)) s) {t : tk_T} {a0 am : Nat} {F : Nat → Int32} {G : Nat → Int64} {R : Nat → Nat → Int32} {S : Nat → Nat → Int64} {H : Heap} {locs : List Loc} (hI : lw_I D cy ld t ad a0 am s.heap.size F G R S H) (hJ : lw_J D ld t a0 F R H) (hS : va_S (fun q : Nat => s.heap.size ≤ q) s.heap H locs) (hS0 : s.heap.size ≤ H.size) (hL : L ≤ 3072) {v : Int32} {i : Int} (hv : v.toInt = i) (hi : 0 ≤ i) (hiL : i + 6 ≤ (L : Int)) {cells slots : Nat} (hc : cells + 7 ≤ 600000) (hs : slots + 1106 ≤ 7302250) (ls : Array Slot) (hl : lv_has ls 4 [(3, .int v), (2, .ref am), (1, .ref a0), (0, .ref b)]) (kk : ∀ (t : tk_T) (F : Nat → Int32) (G : Nat → Int64) (R : Nat → Nat → Int32) (S : Nat → Nat → Int64) (H : Heap) (locs : List Loc) (ls : Array Slot), lw_I D cy ld t ad a0 am s.heap.size F G R S H → lw_J D ld t a0 F R H → va_S (fun q : Nat => s.heap.size ≤ q) s.heap H locs → lv_has ls 4 [(3, .int v), (2, .ref am), (1, .ref a0), (0, .ref b)] → W p l e room_1 s m #[Value.ref b] below meth c H locs (cells + 7) (slots + 1106) (lw_Z below #[Value.ref b] s) (F0 m 1375 ls [])) : W p l e room_1 s m #[Value.ref b] below meth c H locs (cells) (slots) (lw_Z below #[Value.ref b] s) (F0 m 910 ls []) := by
  obtain ⟨hx, hb, hr, hml, hown, hts, hX, hbl, hlocks, hgv⟩ := id C0
  have hown : s.vm.findClass RL = some m.cls := hown
  have hbA : ¬ (fun q : Nat => s.heap.size ≤ q) b := Nat.not_le.mpr hbl
  obtain ⟨ht0, hG, hge, hD, hM, ⟨hIF, hIG, hIR⟩, hsep, hwge⟩ := hI
  have hZ := lw_Z0 hZ0 hge
  have hAZ : ∀ q : Nat, q < s.heap.size → (fun q : Nat => s.heap.size ≤ q) q → (t q).1 ≠ 0 := fun q h1 h2 => absurd h2 (Nat.not_le.mpr h1)
  obtain ⟨hT, ⟨n0, n1, n2, n3, fh, fs, fk, q1, q2, q3, hC, hR⟩, hKI, ⟨ft, htp, htr⟩, hj13, hj15⟩ := hJ
  obtain ⟨⟨e30, e31, e32, e33⟩, ⟨⟨b0, b1⟩, ⟨b2, b3⟩, ⟨b4, b5⟩, b6, b7⟩, -⟩ := id hR
  obtain ⟨y0, ey0⟩ : ∃ z : Int32, F 13 = z := ⟨_, rfl⟩
  have hy0 : 0 ≤ y0.toInt ∧ y0.toInt ≤ 400 := hIF.at ey0
  rw [ey0] at hj13 htr
  obtain ⟨y5, ey5⟩ : ∃ z : Int32, F 11 = z := ⟨_, rfl⟩
  rw [ey5] at hj15
  have hy5 := tk_rng y5
  obtain ⟨ht_ld20, ht_ld70, ht_ld80, ht_ld90, ht_ld100, ht_ld110, ht_ld120⟩ := id hT.1
  obtain ⟨ht_ld24, ht_ld76, ht_ld86, ht_ld96, ht_ld106, ht_ld116, ht_ld126⟩ := id hT.2.1
  obtain ⟨ht_ld25, ht_ld77, ht_ld87, ht_ld97, ht_ld107, ht_ld117, ht_ld127⟩ := id hT.2.2.1
  have ht_ld26 := hT.2.2.2.1
  have ht_ld49 := hT.2.2.2.2
  obtain ⟨x1, hx1⟩ : ∃ z, xs (v + 1 : Int32).toNatClampNeg = z := ⟨_, rfl⟩
  have hk1 : (1 : Int32).toInt = 1 := by decide
  obtain ⟨x2, hx2⟩ : ∃ z, xs (v + 2 : Int32).toNatClampNeg = z := ⟨_, rfl⟩
  have hk2 : (2 : Int32).toInt = 2 := by decide
  obtain ⟨x3, hx3⟩ : ∃ z, xs (v + 3 : Int32).toNatClampNeg = z := ⟨_, rfl⟩
  have hk3 : (3 : Int32).toInt = 3 := by decide
  refine lv_aload_n hx hb dL_law_910 rfl (lv_at hl 2 rfl) ?_
  refine lv_aload_n hx hb dL_law_911 rfl (lv_at hl 3 rfl) ?_
  refine lv_iload_n hx hb dL_law_912 rfl (lv_at hl 0 rfl) ?_
  refine lv_iconst (v := 1) hx hb dL_law_913 (by decide) ?_
  refine lv_iadd hx hb dL_law_914 ?_
  refine va_sld hx hb hX hbl hbA hS (lw_in hv hk1 (by omega) (by omega) (by omega) hL) dL_law_915 ?_
  refine fx_ti (v := x1) hx1 ?_
  refine lv_aload_n hx hb dL_law_916 rfl (lv_at hl 3 rfl) ?_
  refine lv_iload_n hx hb dL_law_917 rfl (lv_at hl 0 rfl) ?_
  refine lv_iconst (v := 2) hx hb dL_law_918 (by decide) ?_
  refine lv_iadd hx hb dL_law_919 ?_
  refine va_sld hx hb hX hbl hbA hS (lw_in hv hk2 (by omega) (by omega) (by omega) hL) dL_law_920 ?_
  refine fx_ti (v := x2) hx2 ?_
  refine lv_aload_n hx hb dL_law_921 rfl (lv_at hl 3 rfl) ?_
  refine lv_iload_n hx hb dL_law_922 rfl (lv_at hl 0 rfl) ?_
  refine lv_iconst (v := 3) hx hb dL_law_923 (by decide) ?_
  refine lv_iadd hx hb dL_law_924 ?_
  refine va_sld hx hb hX hbl hbA hS (lw_in hv hk3 (by omega) (by omega) (by omega) hL) dL_law_925 ?_
  refine fx_ti (v := x3) hx3 ?_
  refine tk_ViA (As := [.int x1, .int x2, .int x3]) (rest := []) (ci := 12) ⟨hx, hb, hml, hown, htl⟩ hK hG hZ hAZ hS (k_X12_saddle l D cy ld t a0 x1 x2 x3 ht0) trivial ⟨callB_of 3 htl (wl_inL mw_1330) rfl rfl rfl (htl _ mw_2) (htl _ mw_1327) hd_yX12_saddle ⟨(Nat.le_of_ble_eq_true rfl), (Nat.le_of_ble_eq_true rfl)⟩, htl _ mw_1328, htl _ mw_1329⟩ ht0 (by decide) tk_no rfl (fun q h => hge q h.1) rfl hl.1 rfl (Nat.le_of_ble_eq_true rfl) dL_law_926 ⟨by show cells + 0 ≤ 600000; omega, by show slots + 0 ≤ 7302250; omega⟩ (fun r1 H locs hpo1 hG hS hz9 hq9 => ?_)
  obtain ⟨hp1_0, hp1_1⟩ := hpo1
  have hC := jC.call hT.1 hC hq9 (by decide)
  have hKI := jK.call hT hKI hq9 (by decide) (by decide) (by decide)
  have htp := htp.call hq9 (tk_w.no ht_ld26 (by decide))
  have hj13 := hj13.call hq9 (tk_w.no ht0 (by decide))
  have hj15 := hj15.call hq9 (tk_w.no ht0 (by decide))
  have hM := hM.frame (H1 := H) (fun q hq => hq9 q (hM.lt hq) (fun h => hsep q h.1 hq))
  refine lv_pop hx hb dL_law_929 rfl ?_
  refine lv_aload_n hx hb dL_law_930 rfl (lv_at hl 1 rfl) ?_
  refine lv_aload_n hx hb dL_law_931 rfl (lv_at hl 3 rfl) ?_
  refine lv_iload_n hx hb dL_law_932 rfl (lv_at hl 0 rfl) ?_
  refine lv_iconst (v := 1) hx hb dL_law_933 (by decide) ?_
  refine lv_iadd hx hb dL_law_934 ?_
  refine va_sld hx hb hX hbl hbA hS (lw_in hv hk1 (by omega) (by omega) (by omega) hL) dL_law_935 ?_
  refine fx_ti (v := x1) hx1 ?_
  refine lv_aload_n hx hb dL_law_936 rfl (lv_at hl 3 rfl) ?_
  refine lv_iload_n hx hb dL_law_937 rfl (lv_at hl 0 rfl) ?_
  refine lv_iconst (v := 2) hx hb dL_law_938 (by decide) ?_
  refine lv_iadd hx hb dL_law_939 ?_
  refine va_sld hx hb hX hbl hbA hS (lw_in hv hk2 (by omega) (by omega) (by omega) hL) dL_law_940 ?_
  refine fx_ti (v := x2) hx2 ?_
  refine lv_aload_n hx hb dL_law_941 rfl (lv_at hl 3 rfl) ?_
  refine lv_iload_n hx hb dL_law_942 rfl (lv_at hl 0 rfl) ?_
  refine lv_iconst (v := 3) hx hb dL_law_943 (by decide) ?_
  refine lv_iadd hx hb dL_law_944 ?_
  refine va_sld hx hb hX hbl hbA hS (lw_in hv hk3 (by omega) (by omega) (by omega) hL) dL_law_945 ?_
  refine fx_ti (v := x3) hx3 ?_
  refine mz_ViA (As := [.int x1, .int x2, .int x3]) (rest := []) ⟨hx, hb, hml, hown, htl⟩ hK hM hS (fun q h => hwge q h) (k_X13_saddle l D cy ld ad am hD _ _ _ _ x1 x2 x3 hIF hIG hIR) ⟨callB_of 3 htl (wl_inL mw_1360) rfl rfl rfl (htl _ mw_5) (htl _ mw_1357) hd_yX13_saddle ⟨(Nat.le_of_ble_eq_true rfl), (Nat.le_of_ble_eq_true rfl)⟩, htl _ mw_1358, htl _ mw_1359⟩ rfl hl.1 rfl (Nat.le_of_ble_eq_true rfl) dL_law_946 ⟨by show cells + 0 + 0 ≤ 600000; omega, by show slots + 0 + 0 ≤ 7302250; omega⟩ (fun r2 H locs F G R S hpo hM hS hz9 hq9 => ?_)
  have hall := fun (q : Nat) (hq : (t q).1 ≠ 0) => hq9 q (hG.lt hq) (hsep q hq)
  have hG := hG.frame (H1 := H) hall
  have hC := jC.all hT.1 hC hall
  have hKI := jK.all hT hKI hall
  have htp := htp.kept (hall _ (by rw [ht_ld26]; exact Nat.succ_ne_zero _))
  have hj13 := hj13.kept (hall _ (by rw [ht0]; exact Nat.succ_ne_zero _))
  have hj15 := hj15.kept (hall _ (by rw [ht0]; exact Nat.succ_ne_zero _))
  obtain ⟨hIF, hIG, hIR, hfr9, hrr9, hgr9, hrel9⟩ := hpo
  have hR := hR.rel hrel9.k3
  have hKI : jK D ld (R 4) (R 5) H := by rw [hrr9 4 (by decide), hrr9 5 (by decide)]; exact hKI
  have eF13 := (hfr9 13 (by decide)).trans ey0
  have htr : ∀ j : Nat, (j : Int) < y0.toInt → ft j = R 12 j := by rw [hrr9 12 (by decide)]; exact htr
  have eF11 := (hfr9 11 (by decide)).trans ey5
  have hJ9 : lw_J D ld t a0 F R H := ⟨hT, ⟨_, _, _, _, _, _, _, _, _, _, hC, hR⟩, hKI, ⟨_, htp, by rw [eF13]; exact htr⟩, by rw [eF13]; exact hj13, by rw [eF11]; exact hj15⟩
  refine lv_pop hx hb dL_law_949 rfl ?_
  refine lv_goto (tgt := 1375) hx hb dL_law_950 (by decide) ?_
  refine W.widen (k := cells + 7) (n := slots + 1106) (by exact Nat.le_add_right _ _) (by exact Nat.le_add_right _ _) ?_
  exact kk t F G R S H locs ls ⟨ht0, hG, hge, hD, hM, ⟨hIF, hIG, hIR⟩, hsep, hwge⟩ hJ9 hS hl
set_option maxHeartbeats 8000000 in
set_option maxRecDepth 100000 in
theorem law_27 {p : Program} {l : Launch} {e : Env} {s : State} {m : MethodId} {below : List Frame} {meth : Method} {c : Code} {b L : Nat} {xs : Nat → Int32} (C0 : lw_At p s m meth c b L xs) (htl : ∀ w ∈ wsA, w.before #[Value.ref b] s = true) {D : va_G} {cy : Nat → ClassId} {ld ad : Nat → Nat} (hK : kk_K D cy ld s) (hZ0 : tk_Z ld (fun _ => (0, 0, 0)) s) {t : tk_T} {a0 am : Nat} {F : Nat → Int32} {G : Nat → Int64} {R : Nat → Nat → Int32} {S : Nat → Nat → Int64} {H : Heap} {locs : List Loc} (hI : lw_I D cy ld t ad a0 am s.heap.size F G R S H) (hJ : lw_J D ld t a0 F R H) (hS : va_S (fun q : Nat => s.heap.size ≤ q) s.heap H locs) (hS0 : s.heap.size ≤ H.size) (hL : L ≤ 3072) {v : Int32} {i : Int} (hv : v.toInt = i) (hi : 0 ≤ i) (hiL : i + 6 ≤ (L : Int)) {cells slots : Nat} (hc : cells + 7 ≤ 600000) (hs : slots + 1106 ≤ 7302250) (ls : Array Slot) (hl : lv_has ls 4 [(3, .int v), (2, .ref am), (1, .ref a0), (0, .ref b)]) (kk : ∀ (t : tk_T) (F : Nat → Int32) (G : Nat → Int64) (R : Nat → Nat → Int32) (S : Nat → Nat → Int64) (H : Heap) (locs : List Loc) (ls : Array Slot), lw_I D cy ld t ad a0 am s.heap.size F G R S H → lw_J D ld t a0 F R H → va_S (fun q : Nat => s.heap.size ≤ q) s.heap H locs → lv_has ls 4 [(3, .int v), (2, .ref am), (1, .ref a0), (0, .ref b)] → W p l e room_1 s m #[Value.ref b] below meth c H locs (cells + 7) (slots + 1106) (lw_Z below #[Value.ref b] s) (F0 m 1375 ls [])) : W p l e room_1 s m #[Value.ref b] below meth c H locs (cells) (slots) (lw_Z below #[Value.ref b] s) (F0 m 953 ls []) := by
  obtain ⟨hx, hb, hr, hml, hown, hts, hX, hbl, hlocks, hgv⟩ := id C0
  have hown : s.vm.findClass RL = some m.cls := hown
  have hbA : ¬ (fun q : Nat => s.heap.size ≤ q) b := Nat.not_le.mpr hbl
  obtain ⟨ht0, hG, hge, hD, hM, ⟨hIF, hIG, hIR⟩, hsep, hwge⟩ := hI
  have hZ := lw_Z0 hZ0 hge
  have hAZ : ∀ q : Nat, q < s.heap.size → (fun q : Nat => s.heap.size ≤ q) q → (t q).1 ≠ 0 := fun q h1 h2 => absurd h2 (Nat.not_le.mpr h1)
  obtain ⟨hT, ⟨n0, n1, n2, n3, fh, fs, fk, q1, q2, q3, hC, hR⟩, hKI, ⟨ft, htp, htr⟩, hj13, hj15⟩ := hJ
  obtain ⟨⟨e30, e31, e32, e33⟩, ⟨⟨b0, b1⟩, ⟨b2, b3⟩, ⟨b4, b5⟩, b6, b7⟩, -⟩ := id hR
  obtain ⟨y0, ey0⟩ : ∃ z : Int32, F 13 = z := ⟨_, rfl⟩
  have hy0 : 0 ≤ y0.toInt ∧ y0.toInt ≤ 400 := hIF.at ey0
  rw [ey0] at hj13 htr
  obtain ⟨y5, ey5⟩ : ∃ z : Int32, F 11 = z := ⟨_, rfl⟩
  rw [ey5] at hj15
  have hy5 := tk_rng y5
  obtain ⟨ht_ld20, ht_ld70, ht_ld80, ht_ld90, ht_ld100, ht_ld110, ht_ld120⟩ := id hT.1
  obtain ⟨ht_ld24, ht_ld76, ht_ld86, ht_ld96, ht_ld106, ht_ld116, ht_ld126⟩ := id hT.2.1
  obtain ⟨ht_ld25, ht_ld77, ht_ld87, ht_ld97, ht_ld107, ht_ld117, ht_ld127⟩ := id hT.2.2.1
  have ht_ld26 := hT.2.2.2.1
  have ht_ld49 := hT.2.2.2.2
  obtain ⟨x1, hx1⟩ : ∃ z, xs (v + 1 : Int32).toNatClampNeg = z := ⟨_, rfl⟩
  have hk1 : (1 : Int32).toInt = 1 := by decide
  obtain ⟨x2, hx2⟩ : ∃ z, xs (v + 2 : Int32).toNatClampNeg = z := ⟨_, rfl⟩
  have hk2 : (2 : Int32).toInt = 2 := by decide
  refine lv_aload_n hx hb dL_law_953 rfl (lv_at hl 2 rfl) ?_
  refine lv_aload_n hx hb dL_law_954 rfl (lv_at hl 3 rfl) ?_
  refine lv_iload_n hx hb dL_law_955 rfl (lv_at hl 0 rfl) ?_
  refine lv_iconst (v := 1) hx hb dL_law_956 (by decide) ?_
  refine lv_iadd hx hb dL_law_957 ?_
  refine va_sld hx hb hX hbl hbA hS (lw_in hv hk1 (by omega) (by omega) (by omega) hL) dL_law_958 ?_
  refine fx_ti (v := x1) hx1 ?_
  refine lv_aload_n hx hb dL_law_959 rfl (lv_at hl 3 rfl) ?_
  refine lv_iload_n hx hb dL_law_960 rfl (lv_at hl 0 rfl) ?_
  refine lv_iconst (v := 2) hx hb dL_law_961 (by decide) ?_
  refine lv_iadd hx hb dL_law_962 ?_
  refine va_sld hx hb hX hbl hbA hS (lw_in hv hk2 (by omega) (by omega) (by omega) hL) dL_law_963 ?_
  refine fx_ti (v := x2) hx2 ?_
  refine tk_ViA (As := [.int x1, .int x2]) (rest := []) (ci := 12) ⟨hx, hb, hml, hown, htl⟩ hK hG hZ hAZ hS (k_X12_rule l D cy ld t a0 x1 x2 ht0) trivial ⟨callB_of 2 htl (wl_inL mw_1393) rfl rfl rfl (htl _ mw_2) (htl _ mw_1390) hd_yX12_rule ⟨(Nat.le_of_ble_eq_true rfl), (Nat.le_of_ble_eq_true rfl)⟩, htl _ mw_1391, htl _ mw_1392⟩ ht0 (by decide) tk_no rfl (fun q h => hge q h.1) rfl hl.1 rfl (Nat.le_of_ble_eq_true rfl) dL_law_964 ⟨by show cells + 0 ≤ 600000; omega, by show slots + 0 ≤ 7302250; omega⟩ (fun r1 H locs hpo1 hG hS hz9 hq9 => ?_)
  obtain ⟨hp1_0, hp1_1⟩ := hpo1
  have hC := jC.call hT.1 hC hq9 (by decide)
  have hKI := jK.call hT hKI hq9 (by decide) (by decide) (by decide)
  have htp := htp.call hq9 (tk_w.no ht_ld26 (by decide))
  have hj13 := hj13.call hq9 (tk_w.no ht0 (by decide))
  have hj15 := hj15.call hq9 (tk_w.no ht0 (by decide))
  have hM := hM.frame (H1 := H) (fun q hq => hq9 q (hM.lt hq) (fun h => hsep q h.1 hq))
  refine lv_pop hx hb dL_law_967 rfl ?_
  refine lv_aload_n hx hb dL_law_968 rfl (lv_at hl 1 rfl) ?_
  refine lv_aload_n hx hb dL_law_969 rfl (lv_at hl 3 rfl) ?_
  refine lv_iload_n hx hb dL_law_970 rfl (lv_at hl 0 rfl) ?_
  refine lv_iconst (v := 1) hx hb dL_law_971 (by decide) ?_
  refine lv_iadd hx hb dL_law_972 ?_
  refine va_sld hx hb hX hbl hbA hS (lw_in hv hk1 (by omega) (by omega) (by omega) hL) dL_law_973 ?_
  refine fx_ti (v := x1) hx1 ?_
  refine lv_aload_n hx hb dL_law_974 rfl (lv_at hl 3 rfl) ?_
  refine lv_iload_n hx hb dL_law_975 rfl (lv_at hl 0 rfl) ?_
  refine lv_iconst (v := 2) hx hb dL_law_976 (by decide) ?_
  refine lv_iadd hx hb dL_law_977 ?_
  refine va_sld hx hb hX hbl hbA hS (lw_in hv hk2 (by omega) (by omega) (by omega) hL) dL_law_978 ?_
  refine fx_ti (v := x2) hx2 ?_
  refine mz_ViA (As := [.int x1, .int x2]) (rest := []) ⟨hx, hb, hml, hown, htl⟩ hK hM hS (fun q h => hwge q h) (k_X13_rule l D cy ld ad am hD _ _ _ _ x1 x2 hIF hIG hIR) ⟨callB_of 2 htl (wl_inL mw_1406) rfl rfl rfl (htl _ mw_5) (htl _ mw_1403) hd_yX13_rule ⟨(Nat.le_of_ble_eq_true rfl), (Nat.le_of_ble_eq_true rfl)⟩, htl _ mw_1404, htl _ mw_1405⟩ rfl hl.1 rfl (Nat.le_of_ble_eq_true rfl) dL_law_979 ⟨by show cells + 0 + 0 ≤ 600000; omega, by show slots + 0 + 0 ≤ 7302250; omega⟩ (fun r2 H locs F G R S hpo hM hS hz9 hq9 => ?_)
  have hall := fun (q : Nat) (hq : (t q).1 ≠ 0) => hq9 q (hG.lt hq) (hsep q hq)
  have hG := hG.frame (H1 := H) hall
  have hC := jC.all hT.1 hC hall
  have hKI := jK.all hT hKI hall
  have htp := htp.kept (hall _ (by rw [ht_ld26]; exact Nat.succ_ne_zero _))
  have hj13 := hj13.kept (hall _ (by rw [ht0]; exact Nat.succ_ne_zero _))
  have hj15 := hj15.kept (hall _ (by rw [ht0]; exact Nat.succ_ne_zero _))
  obtain ⟨hIF, hIG, hIR, hfr9, hrr9, hgr9, hrel9, hp2_0, hp2_1⟩ := hpo
  have hR := hR.rel hrel9.k3
  have hKI : jK D ld (R 4) (R 5) H := by rw [hrr9 4 (by decide), hrr9 5 (by decide)]; exact hKI
  have eF13 := (hfr9 13 (by decide)).trans ey0
  have htr : ∀ j : Nat, (j : Int) < y0.toInt → ft j = R 12 j := by rw [hrr9 12 (by decide)]; exact htr
  have eF11 := (hfr9 11 (by decide)).trans ey5
  have hJ9 : lw_J D ld t a0 F R H := ⟨hT, ⟨_, _, _, _, _, _, _, _, _, _, hC, hR⟩, hKI, ⟨_, htp, by rw [eF13]; exact htr⟩, by rw [eF13]; exact hj13, by rw [eF11]; exact hj15⟩
  refine lv_pop hx hb dL_law_982 rfl ?_
  refine lv_goto (tgt := 1375) hx hb dL_law_983 (by decide) ?_
  refine W.widen (k := cells + 7) (n := slots + 1106) (by exact Nat.le_add_right _ _) (by exact Nat.le_add_right _ _) ?_
  exact kk t F G R S H locs ls ⟨ht0, hG, hge, hD, hM, ⟨hIF, hIG, hIR⟩, hsep, hwge⟩ hJ9 hS hl
