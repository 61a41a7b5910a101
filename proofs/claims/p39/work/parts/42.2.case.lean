set_option maxHeartbeats 4000000 in
set_option maxRecDepth 100000 in
theorem law_28 {p : Program} {l : Launch} {e : Env} {s : State} {m : MethodId} {below : List Frame} {meth : Method} {c : Code} {b L : Nat} {xs : Nat → Int32} (C0 : lw_At p s m meth c b L xs) (htl : ∀ w ∈ wsA, w.before #[Value.ref b] s = true) {D : va_G} {cy : Nat → ClassId} {ld ad : Nat → Nat} (hK : kk_K D cy ld s) (hZ0 : tk_Z ld (fun _ => (0, 0, 0)) s) {t : tk_T} {a0 am : Nat} {F : Nat → Int32} {G : Nat → Int64} {R : Nat → Nat → Int32} {S : Nat → Nat → Int64} {H : Heap} {locs : List Loc} (hI : lw_I D cy ld t ad a0 am s.heap.size F G R S H) (hJ : lw_J D a0 F H) (hS : va_S (fun q : Nat => s.heap.size ≤ q) s.heap H locs) (hS0 : s.heap.size ≤ H.size) (hL : L ≤ 3072) {v : Int32} {i : Int} (hv : v.toInt = i) (hi : 0 ≤ i) (hiL : i + 6 ≤ (L : Int)) {cells slots : Nat} (hc : cells + 7 ≤ 600000) (hs : slots + 1106 ≤ 7302250) (ls : Array Slot) (hl : lv_has ls 4 [(3, .int v), (2, .ref am), (1, .ref a0), (0, .ref b)]) (kk : ∀ (t : tk_T) (F : Nat → Int32) (G : Nat → Int64) (R : Nat → Nat → Int32) (S : Nat → Nat → Int64) (H : Heap) (locs : List Loc) (ls : Array Slot), lw_I D cy ld t ad a0 am s.heap.size F G R S H → lw_J D a0 F H → va_S (fun q : Nat => s.heap.size ≤ q) s.heap H locs → lv_has ls 4 [(3, .int v), (2, .ref am), (1, .ref a0), (0, .ref b)] → W p l e room_1 s m #[Value.ref b] below meth c H locs (cells + 7) (slots + 1106) (lw_Z below #[Value.ref b] s) (F0 m 1375 ls [])) : W p l e room_1 s m #[Value.ref b] below meth c H locs (cells) (slots) (lw_Z below #[Value.ref b] s) (F0 m 986 ls []) := by
  obtain ⟨hx, hb, hr, hml, hown, hts, hX, hbl, hlocks, hgv⟩ := id C0
  have hown : s.vm.findClass RL = some m.cls := hown
  have hbA : ¬ (fun q : Nat => s.heap.size ≤ q) b := Nat.not_le.mpr hbl
  obtain ⟨ht0, hG, hge, hD, hM, ⟨hIF, hIG, hIR⟩, hsep, hwge⟩ := hI
  have hZ := lw_Z0 hZ0 hge
  have hAZ : ∀ q : Nat, q < s.heap.size → (fun q : Nat => s.heap.size ≤ q) q → (t q).1 ≠ 0 := fun q h1 h2 => absurd h2 (Nat.not_le.mpr h1)
  obtain ⟨x1, hx1⟩ : ∃ z, xs (v + 1 : Int32).toNatClampNeg = z := ⟨_, rfl⟩
  have hk1 : (1 : Int32).toInt = 1 := by decide
  refine lv_aload_n hx hb dL_law_986 rfl (lv_at hl 2 rfl) ?_
  refine lv_aload_n hx hb dL_law_987 rfl (lv_at hl 3 rfl) ?_
  refine lv_iload_n hx hb dL_law_988 rfl (lv_at hl 0 rfl) ?_
  refine lv_iconst (v := 1) hx hb dL_law_989 (by decide) ?_
  refine lv_iadd hx hb dL_law_990 ?_
  refine va_sld hx hb hX hbl hbA hS (lw_in hv hk1 (by omega) (by omega) (by omega) hL) dL_law_991 ?_
  refine fx_ti (v := x1) hx1 ?_
  refine tk_ViA (As := [.int x1]) (rest := []) (ci := 12) ⟨hx, hb, hml, hown, htl⟩ hK hG hZ hAZ hS (k_X12_champions l D cy ld t a0 x1 ht0) trivial ⟨callB_of 1 htl (wl_inL mw_1410) rfl rfl rfl (htl _ mw_2) (htl _ mw_1407) hd_yX12_champions ⟨(Nat.le_of_ble_eq_true rfl), (Nat.le_of_ble_eq_true rfl)⟩, htl _ mw_1408, htl _ mw_1409⟩ ht0 (by decide) tk_no rfl (fun q h => hge q h.1) rfl hl.1 rfl (Nat.le_of_ble_eq_true rfl) dL_law_992 ⟨by show cells + 0 ≤ 600000; omega, by show slots + 0 ≤ 7302250; omega⟩ (fun r1 H locs hpo1 hG hS hz9 hq9 => ?_)
  have hM := hM.frame (H1 := H) (fun q hq => hq9 q (hM.lt hq) (fun h => hsep q h.1 hq))
  refine lv_pop hx hb dL_law_995 rfl ?_
  refine lv_aload_n hx hb dL_law_996 rfl (lv_at hl 1 rfl) ?_
  refine lv_aload_n hx hb dL_law_997 rfl (lv_at hl 3 rfl) ?_
  refine lv_iload_n hx hb dL_law_998 rfl (lv_at hl 0 rfl) ?_
  refine lv_iconst (v := 1) hx hb dL_law_999 (by decide) ?_
  refine lv_iadd hx hb dL_law_1000 ?_
  refine va_sld hx hb hX hbl hbA hS (lw_in hv hk1 (by omega) (by omega) (by omega) hL) dL_law_1001 ?_
  refine fx_ti (v := x1) hx1 ?_
  refine mz_ViA (As := [.int x1]) (rest := []) ⟨hx, hb, hml, hown, htl⟩ hK hM hS (fun q h => hwge q h) (k_X13_champions l D cy ld ad am hD _ _ _ _ x1 hIF hIG hIR) ⟨callB_of 1 htl (wl_inL mw_1432) rfl rfl rfl (htl _ mw_5) (htl _ mw_1429) hd_yX13_champions ⟨(Nat.le_of_ble_eq_true rfl), (Nat.le_of_ble_eq_true rfl)⟩, htl _ mw_1430, htl _ mw_1431⟩ rfl hl.1 rfl (Nat.le_of_ble_eq_true rfl) dL_law_1002 ⟨by show cells + 0 + 0 ≤ 600000; omega, by show slots + 0 + 0 ≤ 7302250; omega⟩ (fun r2 H locs F G R S hpo hM hS hz9 hq9 => ?_)
  have hG := hG.frame (H1 := H) (fun q hq => hq9 q (hG.lt hq) (hsep q hq))
  obtain ⟨hIF, hIG, hIR, -⟩ := hpo
  refine lv_pop hx hb dL_law_1005 rfl ?_
  refine lv_goto (tgt := 1375) hx hb dL_law_1006 (by decide) ?_
  refine W.widen (k := cells + 7) (n := slots + 1106) (by exact Nat.le_add_right _ _) (by exact Nat.le_add_right _ _) ?_
  exact kk t F G R S H locs ls ⟨ht0, hG, hge, hD, hM, ⟨hIF, hIG, hIR⟩, hsep, hwge⟩ trivial hS hl
set_option maxHeartbeats 4000000 in
set_option maxRecDepth 100000 in
theorem law_29 {p : Program} {l : Launch} {e : Env} {s : State} {m : MethodId} {below : List Frame} {meth : Method} {c : Code} {b L : Nat} {xs : Nat → Int32} (C0 : lw_At p s m meth c b L xs) (htl : ∀ w ∈ wsA, w.before #[Value.ref b] s = true) {D : va_G} {cy : Nat → ClassId} {ld ad : Nat → Nat} (hK : kk_K D cy ld s) (hZ0 : tk_Z ld (fun _ => (0, 0, 0)) s) {t : tk_T} {a0 am : Nat} {F : Nat → Int32} {G : Nat → Int64} {R : Nat → Nat → Int32} {S : Nat → Nat → Int64} {H : Heap} {locs : List Loc} (hI : lw_I D cy ld t ad a0 am s.heap.size F G R S H) (hJ : lw_J D a0 F H) (hS : va_S (fun q : Nat => s.heap.size ≤ q) s.heap H locs) (hS0 : s.heap.size ≤ H.size) (hL : L ≤ 3072) {v : Int32} {i : Int} (hv : v.toInt = i) (hi : 0 ≤ i) (hiL : i + 6 ≤ (L : Int)) {cells slots : Nat} (hc : cells + 7 ≤ 600000) (hs : slots + 1106 ≤ 7302250) (ls : Array Slot) (hl : lv_has ls 4 [(3, .int v), (2, .ref am), (1, .ref a0), (0, .ref b)]) (kk : ∀ (t : tk_T) (F : Nat → Int32) (G : Nat → Int64) (R : Nat → Nat → Int32) (S : Nat → Nat → Int64) (H : Heap) (locs : List Loc) (ls : Array Slot), lw_I D cy ld t ad a0 am s.heap.size F G R S H → lw_J D a0 F H → va_S (fun q : Nat => s.heap.size ≤ q) s.heap H locs → lv_has ls 4 [(3, .int v), (2, .ref am), (1, .ref a0), (0, .ref b)] → W p l e room_1 s m #[Value.ref b] below meth c H locs (cells + 7) (slots + 1106) (lw_Z below #[Value.ref b] s) (F0 m 1375 ls [])) : W p l e room_1 s m #[Value.ref b] below meth c H locs (cells) (slots) (lw_Z below #[Value.ref b] s) (F0 m 1009 ls []) := by
  obtain ⟨hx, hb, hr, hml, hown, hts, hX, hbl, hlocks, hgv⟩ := id C0
  have hown : s.vm.findClass RL = some m.cls := hown
  have hbA : ¬ (fun q : Nat => s.heap.size ≤ q) b := Nat.not_le.mpr hbl
  obtain ⟨ht0, hG, hge, hD, hM, ⟨hIF, hIG, hIR⟩, hsep, hwge⟩ := hI
  have hZ := lw_Z0 hZ0 hge
  have hAZ : ∀ q : Nat, q < s.heap.size → (fun q : Nat => s.heap.size ≤ q) q → (t q).1 ≠ 0 := fun q h1 h2 => absurd h2 (Nat.not_le.mpr h1)
  obtain ⟨x1, hx1⟩ : ∃ z, xs (v + 1 : Int32).toNatClampNeg = z := ⟨_, rfl⟩
  have hk1 : (1 : Int32).toInt = 1 := by decide
  obtain ⟨x2, hx2⟩ : ∃ z, xs (v + 2 : Int32).toNatClampNeg = z := ⟨_, rfl⟩
  have hk2 : (2 : Int32).toInt = 2 := by decide
  refine lv_aload_n hx hb dL_law_1009 rfl (lv_at hl 2 rfl) ?_
  refine lv_aload_n hx hb dL_law_1010 rfl (lv_at hl 3 rfl) ?_
  refine lv_iload_n hx hb dL_law_1011 rfl (lv_at hl 0 rfl) ?_
  refine lv_iconst (v := 1) hx hb dL_law_1012 (by decide) ?_
  refine lv_iadd hx hb dL_law_1013 ?_
  refine va_sld hx hb hX hbl hbA hS (lw_in hv hk1 (by omega) (by omega) (by omega) hL) dL_law_1014 ?_
  refine fx_ti (v := x1) hx1 ?_
  refine lv_aload_n hx hb dL_law_1015 rfl (lv_at hl 3 rfl) ?_
  refine lv_iload_n hx hb dL_law_1016 rfl (lv_at hl 0 rfl) ?_
  refine lv_iconst (v := 2) hx hb dL_law_1017 (by decide) ?_
  refine lv_iadd hx hb dL_law_1018 ?_
  refine va_sld hx hb hX hbl hbA hS (lw_in hv hk2 (by omega) (by omega) (by omega) hL) dL_law_1019 ?_
  refine fx_ti (v := x2) hx2 ?_
  refine tk_ViA (As := [.int x1, .int x2]) (rest := []) (ci := 12) ⟨hx, hb, hml, hown, htl⟩ hK hG hZ hAZ hS (k_X12_made l D cy ld t a0 x1 x2 ht0) trivial ⟨callB_of 2 htl (wl_inL mw_1450) rfl rfl rfl (htl _ mw_2) (htl _ mw_1447) hd_yX12_made ⟨(Nat.le_of_ble_eq_true rfl), (Nat.le_of_ble_eq_true rfl)⟩, htl _ mw_1448, htl _ mw_1449⟩ ht0 (by decide) tk_no rfl (fun q h => hge q h.1) rfl hl.1 rfl (Nat.le_of_ble_eq_true rfl) dL_law_1020 ⟨by show cells + 0 ≤ 600000; omega, by show slots + 0 ≤ 7302250; omega⟩ (fun r1 H locs hpo1 hG hS hz9 hq9 => ?_)
  have hM := hM.frame (H1 := H) (fun q hq => hq9 q (hM.lt hq) (fun h => hsep q h.1 hq))
  refine lv_pop hx hb dL_law_1023 rfl ?_
  refine lv_aload_n hx hb dL_law_1024 rfl (lv_at hl 1 rfl) ?_
  refine lv_aload_n hx hb dL_law_1025 rfl (lv_at hl 3 rfl) ?_
  refine lv_iload_n hx hb dL_law_1026 rfl (lv_at hl 0 rfl) ?_
  refine lv_iconst (v := 1) hx hb dL_law_1027 (by decide) ?_
  refine lv_iadd hx hb dL_law_1028 ?_
  refine va_sld hx hb hX hbl hbA hS (lw_in hv hk1 (by omega) (by omega) (by omega) hL) dL_law_1029 ?_
  refine fx_ti (v := x1) hx1 ?_
  refine lv_aload_n hx hb dL_law_1030 rfl (lv_at hl 3 rfl) ?_
  refine lv_iload_n hx hb dL_law_1031 rfl (lv_at hl 0 rfl) ?_
  refine lv_iconst (v := 2) hx hb dL_law_1032 (by decide) ?_
  refine lv_iadd hx hb dL_law_1033 ?_
  refine va_sld hx hb hX hbl hbA hS (lw_in hv hk2 (by omega) (by omega) (by omega) hL) dL_law_1034 ?_
  refine fx_ti (v := x2) hx2 ?_
  refine mz_ViA (As := [.int x1, .int x2]) (rest := []) ⟨hx, hb, hml, hown, htl⟩ hK hM hS (fun q h => hwge q h) (k_X13_made l D cy ld ad am hD _ _ _ _ x1 x2 hIF hIG hIR) ⟨callB_of 2 htl (wl_inL mw_1469) rfl rfl rfl (htl _ mw_5) (htl _ mw_1466) hd_yX13_made ⟨(Nat.le_of_ble_eq_true rfl), (Nat.le_of_ble_eq_true rfl)⟩, htl _ mw_1467, htl _ mw_1468⟩ rfl hl.1 rfl (Nat.le_of_ble_eq_true rfl) dL_law_1035 ⟨by show cells + 0 + 0 ≤ 600000; omega, by show slots + 0 + 0 ≤ 7302250; omega⟩ (fun r2 H locs F G R S hpo hM hS hz9 hq9 => ?_)
  have hG := hG.frame (H1 := H) (fun q hq => hq9 q (hG.lt hq) (hsep q hq))
  obtain ⟨hIF, hIG, hIR, -⟩ := hpo
  refine lv_pop hx hb dL_law_1038 rfl ?_
  refine lv_goto (tgt := 1375) hx hb dL_law_1039 (by decide) ?_
  refine W.widen (k := cells + 7) (n := slots + 1106) (by exact Nat.le_add_right _ _) (by exact Nat.le_add_right _ _) ?_
  exact kk t F G R S H locs ls ⟨ht0, hG, hge, hD, hM, ⟨hIF, hIG, hIR⟩, hsep, hwge⟩ trivial hS hl
set_option maxHeartbeats 4000000 in
set_option maxRecDepth 100000 in
theorem law_30 {p : Program} {l : Launch} {e : Env} {s : State} {m : MethodId} {below : List Frame} {meth : Method} {c : Code} {b L : Nat} {xs : Nat → Int32} (C0 : lw_At p s m meth c b L xs) (htl : ∀ w ∈ wsA, w.before #[Value.ref b] s = true) {D : va_G} {cy : Nat → ClassId} {ld ad : Nat → Nat} (hK : kk_K D cy ld s) (hZ0 : tk_Z ld (fun _ => (0, 0, 0)) s) {t : tk_T} {a0 am : Nat} {F : Nat → Int32} {G : Nat → Int64} {R : Nat → Nat → Int32} {S : Nat → Nat → Int64} {H : Heap} {locs : List Loc} (hI : lw_I D cy ld t ad a0 am s.heap.size F G R S H) (hJ : lw_J D a0 F H) (hS : va_S (fun q : Nat => s.heap.size ≤ q) s.heap H locs) (hS0 : s.heap.size ≤ H.size) (hL : L ≤ 3072) {v : Int32} {i : Int} (hv : v.toInt = i) (hi : 0 ≤ i) (hiL : i + 6 ≤ (L : Int)) {cells slots : Nat} (hc : cells + 7 ≤ 600000) (hs : slots + 1106 ≤ 7302250) (ls : Array Slot) (hl : lv_has ls 4 [(3, .int v), (2, .ref am), (1, .ref a0), (0, .ref b)]) (kk : ∀ (t : tk_T) (F : Nat → Int32) (G : Nat → Int64) (R : Nat → Nat → Int32) (S : Nat → Nat → Int64) (H : Heap) (locs : List Loc) (ls : Array Slot), lw_I D cy ld t ad a0 am s.heap.size F G R S H → lw_J D a0 F H → va_S (fun q : Nat => s.heap.size ≤ q) s.heap H locs → lv_has ls 4 [(3, .int v), (2, .ref am), (1, .ref a0), (0, .ref b)] → W p l e room_1 s m #[Value.ref b] below meth c H locs (cells + 7) (slots + 1106) (lw_Z below #[Value.ref b] s) (F0 m 1375 ls [])) : W p l e room_1 s m #[Value.ref b] below meth c H locs (cells) (slots) (lw_Z below #[Value.ref b] s) (F0 m 1042 ls []) := by
  obtain ⟨hx, hb, hr, hml, hown, hts, hX, hbl, hlocks, hgv⟩ := id C0
  have hown : s.vm.findClass RL = some m.cls := hown
  have hbA : ¬ (fun q : Nat => s.heap.size ≤ q) b := Nat.not_le.mpr hbl
  obtain ⟨ht0, hG, hge, hD, hM, ⟨hIF, hIG, hIR⟩, hsep, hwge⟩ := hI
  have hZ := lw_Z0 hZ0 hge
  have hAZ : ∀ q : Nat, q < s.heap.size → (fun q : Nat => s.heap.size ≤ q) q → (t q).1 ≠ 0 := fun q h1 h2 => absurd h2 (Nat.not_le.mpr h1)
  obtain ⟨x1, hx1⟩ : ∃ z, xs (v + 1 : Int32).toNatClampNeg = z := ⟨_, rfl⟩
  have hk1 : (1 : Int32).toInt = 1 := by decide
  obtain ⟨x2, hx2⟩ : ∃ z, xs (v + 2 : Int32).toNatClampNeg = z := ⟨_, rfl⟩
  have hk2 : (2 : Int32).toInt = 2 := by decide
  obtain ⟨x3, hx3⟩ : ∃ z, xs (v + 3 : Int32).toNatClampNeg = z := ⟨_, rfl⟩
  have hk3 : (3 : Int32).toInt = 3 := by decide
  obtain ⟨x4, hx4⟩ : ∃ z, xs (v + 4 : Int32).toNatClampNeg = z := ⟨_, rfl⟩
  have hk4 : (4 : Int32).toInt = 4 := by decide
  obtain ⟨x5, hx5⟩ : ∃ z, xs (v + 5 : Int32).toNatClampNeg = z := ⟨_, rfl⟩
  have hk5 : (5 : Int32).toInt = 5 := by decide
  refine lv_aload_n hx hb dL_law_1042 rfl (lv_at hl 2 rfl) ?_
  refine lv_aload_n hx hb dL_law_1043 rfl (lv_at hl 3 rfl) ?_
  refine lv_iload_n hx hb dL_law_1044 rfl (lv_at hl 0 rfl) ?_
  refine lv_iconst (v := 1) hx hb dL_law_1045 (by decide) ?_
  refine lv_iadd hx hb dL_law_1046 ?_
  refine va_sld hx hb hX hbl hbA hS (lw_in hv hk1 (by omega) (by omega) (by omega) hL) dL_law_1047 ?_
  refine fx_ti (v := x1) hx1 ?_
  refine lv_aload_n hx hb dL_law_1048 rfl (lv_at hl 3 rfl) ?_
  refine lv_iload_n hx hb dL_law_1049 rfl (lv_at hl 0 rfl) ?_
  refine lv_iconst (v := 2) hx hb dL_law_1050 (by decide) ?_
  refine lv_iadd hx hb dL_law_1051 ?_
  refine va_sld hx hb hX hbl hbA hS (lw_in hv hk2 (by omega) (by omega) (by omega) hL) dL_law_1052 ?_
  refine fx_ti (v := x2) hx2 ?_
  refine lv_aload_n hx hb dL_law_1053 rfl (lv_at hl 3 rfl) ?_
  refine lv_iload_n hx hb dL_law_1054 rfl (lv_at hl 0 rfl) ?_
  refine lv_iconst (v := 3) hx hb dL_law_1055 (by decide) ?_
  refine lv_iadd hx hb dL_law_1056 ?_
  refine va_sld hx hb hX hbl hbA hS (lw_in hv hk3 (by omega) (by omega) (by omega) hL) dL_law_1057 ?_
  refine fx_ti (v := x3) hx3 ?_
  refine lv_aload_n hx hb dL_law_1058 rfl (lv_at hl 3 rfl) ?_
  refine lv_iload_n hx hb dL_law_1059 rfl (lv_at hl 0 rfl) ?_
  refine lv_iconst (v := 4) hx hb dL_law_1060 (by decide) ?_
  refine lv_iadd hx hb dL_law_1061 ?_
  refine va_sld hx hb hX hbl hbA hS (lw_in hv hk4 (by omega) (by omega) (by omega) hL) dL_law_1062 ?_
  refine fx_ti (v := x4) hx4 ?_
  refine lv_aload_n hx hb dL_law_1063 rfl (lv_at hl 3 rfl) ?_
  refine lv_iload_n hx hb dL_law_1064 rfl (lv_at hl 0 rfl) ?_
  refine lv_iconst (v := 5) hx hb dL_law_1065 (by decide) ?_
  refine lv_iadd hx hb dL_law_1066 ?_
  refine va_sld hx hb hX hbl hbA hS (lw_in hv hk5 (by omega) (by omega) (by omega) hL) dL_law_1067 ?_
  refine fx_ti (v := x5) hx5 ?_
  refine tk_ViA (As := [.int x1, .int x2, .int x3, .int x4, .int x5]) (rest := []) (ci := 12) ⟨hx, hb, hml, hown, htl⟩ hK hG hZ hAZ hS (k_X12_sight l D cy ld t a0 x1 x2 x3 x4 x5 ht0) trivial ⟨callB_of 5 htl (wl_inL mw_1484) rfl rfl rfl (htl _ mw_2) (htl _ mw_1481) hd_yX12_sight ⟨(Nat.le_of_ble_eq_true rfl), (Nat.le_of_ble_eq_true rfl)⟩, htl _ mw_1482, htl _ mw_1483⟩ ht0 (by decide) tk_no rfl (fun q h => hge q h.1) rfl hl.1 rfl (Nat.le_of_ble_eq_true rfl) dL_law_1068 ⟨by show cells + 0 ≤ 600000; omega, by show slots + 0 ≤ 7302250; omega⟩ (fun r1 H locs hpo1 hG hS hz9 hq9 => ?_)
  have hM := hM.frame (H1 := H) (fun q hq => hq9 q (hM.lt hq) (fun h => hsep q h.1 hq))
  refine lv_pop hx hb dL_law_1071 rfl ?_
  refine lv_aload_n hx hb dL_law_1072 rfl (lv_at hl 1 rfl) ?_
  refine lv_aload_n hx hb dL_law_1073 rfl (lv_at hl 3 rfl) ?_
  refine lv_iload_n hx hb dL_law_1074 rfl (lv_at hl 0 rfl) ?_
  refine lv_iconst (v := 1) hx hb dL_law_1075 (by decide) ?_
  refine lv_iadd hx hb dL_law_1076 ?_
  refine va_sld hx hb hX hbl hbA hS (lw_in hv hk1 (by omega) (by omega) (by omega) hL) dL_law_1077 ?_
  refine fx_ti (v := x1) hx1 ?_
  refine lv_aload_n hx hb dL_law_1078 rfl (lv_at hl 3 rfl) ?_
  refine lv_iload_n hx hb dL_law_1079 rfl (lv_at hl 0 rfl) ?_
  refine lv_iconst (v := 2) hx hb dL_law_1080 (by decide) ?_
  refine lv_iadd hx hb dL_law_1081 ?_
  refine va_sld hx hb hX hbl hbA hS (lw_in hv hk2 (by omega) (by omega) (by omega) hL) dL_law_1082 ?_
  refine fx_ti (v := x2) hx2 ?_
  refine lv_aload_n hx hb dL_law_1083 rfl (lv_at hl 3 rfl) ?_
  refine lv_iload_n hx hb dL_law_1084 rfl (lv_at hl 0 rfl) ?_
  refine lv_iconst (v := 3) hx hb dL_law_1085 (by decide) ?_
  refine lv_iadd hx hb dL_law_1086 ?_
  refine va_sld hx hb hX hbl hbA hS (lw_in hv hk3 (by omega) (by omega) (by omega) hL) dL_law_1087 ?_
  refine fx_ti (v := x3) hx3 ?_
  refine lv_aload_n hx hb dL_law_1088 rfl (lv_at hl 3 rfl) ?_
  refine lv_iload_n hx hb dL_law_1089 rfl (lv_at hl 0 rfl) ?_
  refine lv_iconst (v := 4) hx hb dL_law_1090 (by decide) ?_
  refine lv_iadd hx hb dL_law_1091 ?_
  refine va_sld hx hb hX hbl hbA hS (lw_in hv hk4 (by omega) (by omega) (by omega) hL) dL_law_1092 ?_
  refine fx_ti (v := x4) hx4 ?_
  refine lv_aload_n hx hb dL_law_1093 rfl (lv_at hl 3 rfl) ?_
  refine lv_iload_n hx hb dL_law_1094 rfl (lv_at hl 0 rfl) ?_
  refine lv_iconst (v := 5) hx hb dL_law_1095 (by decide) ?_
  refine lv_iadd hx hb dL_law_1096 ?_
  refine va_sld hx hb hX hbl hbA hS (lw_in hv hk5 (by omega) (by omega) (by omega) hL) dL_law_1097 ?_
  refine fx_ti (v := x5) hx5 ?_
  refine mz_ViA (As := [.int x1, .int x2, .int x3, .int x4, .int x5]) (rest := []) ⟨hx, hb, hml, hown, htl⟩ hK hM hS (fun q h => hwge q h) (k_X13_sight l D cy ld ad am hD _ _ _ _ x1 x2 x3 x4 x5 hIF hIG hIR) ⟨callB_of 5 htl (wl_inL mw_1493) rfl rfl rfl (htl _ mw_5) (htl _ mw_1490) hd_yX13_sight ⟨(Nat.le_of_ble_eq_true rfl), (Nat.le_of_ble_eq_true rfl)⟩, htl _ mw_1491, htl _ mw_1492⟩ rfl hl.1 rfl (Nat.le_of_ble_eq_true rfl) dL_law_1098 ⟨by show cells + 0 + 0 ≤ 600000; omega, by show slots + 0 + 0 ≤ 7302250; omega⟩ (fun r2 H locs F G R S hpo hM hS hz9 hq9 => ?_)
  have hG := hG.frame (H1 := H) (fun q hq => hq9 q (hG.lt hq) (hsep q hq))
  obtain ⟨hIF, hIG, hIR, -⟩ := hpo
  refine lv_pop hx hb dL_law_1101 rfl ?_
  refine lv_goto (tgt := 1375) hx hb dL_law_1102 (by decide) ?_
  refine W.widen (k := cells + 7) (n := slots + 1106) (by exact Nat.le_add_right _ _) (by exact Nat.le_add_right _ _) ?_
  exact kk t F G R S H locs ls ⟨ht0, hG, hge, hD, hM, ⟨hIF, hIG, hIR⟩, hsep, hwge⟩ trivial hS hl
set_option maxHeartbeats 4000000 in
set_option maxRecDepth 100000 in
theorem law_31 {p : Program} {l : Launch} {e : Env} {s : State} {m : MethodId} {below : List Frame} {meth : Method} {c : Code} {b L : Nat} {xs : Nat → Int32} (C0 : lw_At p s m meth c b L xs) (htl : ∀ w ∈ wsA, w.before #[Value.ref b] s = true) {D : va_G} {cy : Nat → ClassId} {ld ad : Nat → Nat} (hK : kk_K D cy ld s) (hZ0 : tk_Z ld (fun _ => (0, 0, 0)) s) {t : tk_T} {a0 am : Nat} {F : Nat → Int32} {G : Nat → Int64} {R : Nat → Nat → Int32} {S : Nat → Nat → Int64} {H : Heap} {locs : List Loc} (hI : lw_I D cy ld t ad a0 am s.heap.size F G R S H) (hJ : lw_J D a0 F H) (hS : va_S (fun q : Nat => s.heap.size ≤ q) s.heap H locs) (hS0 : s.heap.size ≤ H.size) (hL : L ≤ 3072) {v : Int32} {i : Int} (hv : v.toInt = i) (hi : 0 ≤ i) (hiL : i + 6 ≤ (L : Int)) {cells slots : Nat} (hc : cells + 7 ≤ 600000) (hs : slots + 1106 ≤ 7302250) (ls : Array Slot) (hl : lv_has ls 4 [(3, .int v), (2, .ref am), (1, .ref a0), (0, .ref b)]) (kk : ∀ (t : tk_T) (F : Nat → Int32) (G : Nat → Int64) (R : Nat → Nat → Int32) (S : Nat → Nat → Int64) (H : Heap) (locs : List Loc) (ls : Array Slot), lw_I D cy ld t ad a0 am s.heap.size F G R S H → lw_J D a0 F H → va_S (fun q : Nat => s.heap.size ≤ q) s.heap H locs → lv_has ls 4 [(3, .int v), (2, .ref am), (1, .ref a0), (0, .ref b)] → W p l e room_1 s m #[Value.ref b] below meth c H locs (cells + 7) (slots + 1106) (lw_Z below #[Value.ref b] s) (F0 m 1375 ls [])) : W p l e room_1 s m #[Value.ref b] below meth c H locs (cells) (slots) (lw_Z below #[Value.ref b] s) (F0 m 1105 ls []) := by
  obtain ⟨hx, hb, hr, hml, hown, hts, hX, hbl, hlocks, hgv⟩ := id C0
  have hown : s.vm.findClass RL = some m.cls := hown
  have hbA : ¬ (fun q : Nat => s.heap.size ≤ q) b := Nat.not_le.mpr hbl
  obtain ⟨ht0, hG, hge, hD, hM, ⟨hIF, hIG, hIR⟩, hsep, hwge⟩ := hI
  have hZ := lw_Z0 hZ0 hge
  have hAZ : ∀ q : Nat, q < s.heap.size → (fun q : Nat => s.heap.size ≤ q) q → (t q).1 ≠ 0 := fun q h1 h2 => absurd h2 (Nat.not_le.mpr h1)
  refine lv_aload_n hx hb dL_law_1105 rfl (lv_at hl 2 rfl) ?_
  refine tk_ViA (As := []) (rest := []) (ci := 12) ⟨hx, hb, hml, hown, htl⟩ hK hG hZ hAZ hS (k_X12_forget l D cy ld t a0 ht0) trivial ⟨callB_of 0 htl (wl_inL mw_1498) rfl rfl rfl (htl _ mw_2) (htl _ mw_1495) hd_yX12_forget ⟨(Nat.le_of_ble_eq_true rfl), (Nat.le_of_ble_eq_true rfl)⟩, htl _ mw_1496, htl _ mw_1497⟩ ht0 (by decide) tk_no rfl (fun q h => hge q h.1) rfl hl.1 rfl (Nat.le_of_ble_eq_true rfl) dL_law_1106 ⟨by show cells + 0 ≤ 600000; omega, by show slots + 0 ≤ 7302250; omega⟩ (fun r1 H locs hpo1 hG hS hz9 hq9 => ?_)
  have hM := hM.frame (H1 := H) (fun q hq => hq9 q (hM.lt hq) (fun h => hsep q h.1 hq))
  refine lv_pop hx hb dL_law_1109 rfl ?_
  refine lv_aload_n hx hb dL_law_1110 rfl (lv_at hl 1 rfl) ?_
  refine mz_ViA (As := []) (rest := []) ⟨hx, hb, hml, hown, htl⟩ hK hM hS (fun q h => hwge q h) (k_X13_forget l D cy ld ad am hD _ _ _ _ hIF hIG hIR) ⟨callB_of 0 htl (wl_inL mw_1503) rfl rfl rfl (htl _ mw_5) (htl _ mw_1500) hd_yX13_forget ⟨(Nat.le_of_ble_eq_true rfl), (Nat.le_of_ble_eq_true rfl)⟩, htl _ mw_1501, htl _ mw_1502⟩ rfl hl.1 rfl (Nat.le_of_ble_eq_true rfl) dL_law_1111 ⟨by show cells + 0 + 0 ≤ 600000; omega, by show slots + 0 + 0 ≤ 7302250; omega⟩ (fun r2 H locs F G R S hpo hM hS hz9 hq9 => ?_)
  have hG := hG.frame (H1 := H) (fun q hq => hq9 q (hG.lt hq) (hsep q hq))
  obtain ⟨hIF, hIG, hIR, -⟩ := hpo
  refine lv_pop hx hb dL_law_1114 rfl ?_
  refine lv_goto (tgt := 1375) hx hb dL_law_1115 (by decide) ?_
  refine W.widen (k := cells + 7) (n := slots + 1106) (by exact Nat.le_add_right _ _) (by exact Nat.le_add_right _ _) ?_
  exact kk t F G R S H locs ls ⟨ht0, hG, hge, hD, hM, ⟨hIF, hIG, hIR⟩, hsep, hwge⟩ trivial hS hl
set_option maxHeartbeats 4000000 in
set_option maxRecDepth 100000 in
theorem law_32 {p : Program} {l : Launch} {e : Env} {s : State} {m : MethodId} {below : List Frame} {meth : Method} {c : Code} {b L : Nat} {xs : Nat → Int32} (C0 : lw_At p s m meth c b L xs) (htl : ∀ w ∈ wsA, w.before #[Value.ref b] s = true) {D : va_G} {cy : Nat → ClassId} {ld ad : Nat → Nat} (hK : kk_K D cy ld s) (hZ0 : tk_Z ld (fun _ => (0, 0, 0)) s) {t : tk_T} {a0 am : Nat} {F : Nat → Int32} {G : Nat → Int64} {R : Nat → Nat → Int32} {S : Nat → Nat → Int64} {H : Heap} {locs : List Loc} (hI : lw_I D cy ld t ad a0 am s.heap.size F G R S H) (hJ : lw_J D a0 F H) (hS : va_S (fun q : Nat => s.heap.size ≤ q) s.heap H locs) (hS0 : s.heap.size ≤ H.size) (hL : L ≤ 3072) {v : Int32} {i : Int} (hv : v.toInt = i) (hi : 0 ≤ i) (hiL : i + 6 ≤ (L : Int)) {cells slots : Nat} (hc : cells + 7 ≤ 600000) (hs : slots + 1106 ≤ 7302250) (ls : Array Slot) (hl : lv_has ls 4 [(3, .int v), (2, .ref am), (1, .ref a0), (0, .ref b)]) (kk : ∀ (t : tk_T) (F : Nat → Int32) (G : Nat → Int64) (R : Nat → Nat → Int32) (S : Nat → Nat → Int64) (H : Heap) (locs : List Loc) (ls : Array Slot), lw_I D cy ld t ad a0 am s.heap.size F G R S H → lw_J D a0 F H → va_S (fun q : Nat => s.heap.size ≤ q) s.heap H locs → lv_has ls 4 [(3, .int v), (2, .ref am), (1, .ref a0), (0, .ref b)] → W p l e room_1 s m #[Value.ref b] below meth c H locs (cells + 7) (slots + 1106) (lw_Z below #[Value.ref b] s) (F0 m 1375 ls [])) : W p l e room_1 s m #[Value.ref b] below meth c H locs (cells) (slots) (lw_Z below #[Value.ref b] s) (F0 m 1118 ls []) := by
  obtain ⟨hx, hb, hr, hml, hown, hts, hX, hbl, hlocks, hgv⟩ := id C0
  have hown : s.vm.findClass RL = some m.cls := hown
  have hbA : ¬ (fun q : Nat => s.heap.size ≤ q) b := Nat.not_le.mpr hbl
  obtain ⟨ht0, hG, hge, hD, hM, ⟨hIF, hIG, hIR⟩, hsep, hwge⟩ := hI
  have hZ := lw_Z0 hZ0 hge
  have hAZ : ∀ q : Nat, q < s.heap.size → (fun q : Nat => s.heap.size ≤ q) q → (t q).1 ≠ 0 := fun q h1 h2 => absurd h2 (Nat.not_le.mpr h1)
  obtain ⟨x1, hx1⟩ : ∃ z, xs (v + 1 : Int32).toNatClampNeg = z := ⟨_, rfl⟩
  have hk1 : (1 : Int32).toInt = 1 := by decide
  obtain ⟨x2, hx2⟩ : ∃ z, xs (v + 2 : Int32).toNatClampNeg = z := ⟨_, rfl⟩
  have hk2 : (2 : Int32).toInt = 2 := by decide
  refine lv_aload_n hx hb dL_law_1118 rfl (lv_at hl 2 rfl) ?_
  refine lv_aload_n hx hb dL_law_1119 rfl (lv_at hl 3 rfl) ?_
  refine lv_iload_n hx hb dL_law_1120 rfl (lv_at hl 0 rfl) ?_
  refine lv_iconst (v := 1) hx hb dL_law_1121 (by decide) ?_
  refine lv_iadd hx hb dL_law_1122 ?_
  refine va_sld hx hb hX hbl hbA hS (lw_in hv hk1 (by omega) (by omega) (by omega) hL) dL_law_1123 ?_
  refine fx_ti (v := x1) hx1 ?_
  refine lv_aload_n hx hb dL_law_1124 rfl (lv_at hl 3 rfl) ?_
  refine lv_iload_n hx hb dL_law_1125 rfl (lv_at hl 0 rfl) ?_
  refine lv_iconst (v := 2) hx hb dL_law_1126 (by decide) ?_
  refine lv_iadd hx hb dL_law_1127 ?_
  refine va_sld hx hb hX hbl hbA hS (lw_in hv hk2 (by omega) (by omega) (by omega) hL) dL_law_1128 ?_
  refine fx_ti (v := x2) hx2 ?_
  refine tk_ViA (As := [.int x1, .int x2]) (rest := []) (ci := 12) ⟨hx, hb, hml, hown, htl⟩ hK hG hZ hAZ hS (k_X12_fits l D cy ld t a0 x1 x2 ht0) trivial ⟨callB_of 2 htl (wl_inL mw_1507) rfl rfl rfl (htl _ mw_2) (htl _ mw_1504) hd_yX12_fits ⟨(Nat.le_of_ble_eq_true rfl), (Nat.le_of_ble_eq_true rfl)⟩, htl _ mw_1505, htl _ mw_1506⟩ ht0 (by decide) tk_no rfl (fun q h => hge q h.1) rfl hl.1 rfl (Nat.le_of_ble_eq_true rfl) dL_law_1129 ⟨by show cells + 0 ≤ 600000; omega, by show slots + 0 ≤ 7302250; omega⟩ (fun r1 H locs hpo1 hG hS hz9 hq9 => ?_)
  have hM := hM.frame (H1 := H) (fun q hq => hq9 q (hM.lt hq) (fun h => hsep q h.1 hq))
  refine lv_pop hx hb dL_law_1132 rfl ?_
  refine lv_aload_n hx hb dL_law_1133 rfl (lv_at hl 1 rfl) ?_
  refine lv_aload_n hx hb dL_law_1134 rfl (lv_at hl 3 rfl) ?_
  refine lv_iload_n hx hb dL_law_1135 rfl (lv_at hl 0 rfl) ?_
  refine lv_iconst (v := 1) hx hb dL_law_1136 (by decide) ?_
  refine lv_iadd hx hb dL_law_1137 ?_
  refine va_sld hx hb hX hbl hbA hS (lw_in hv hk1 (by omega) (by omega) (by omega) hL) dL_law_1138 ?_
  refine fx_ti (v := x1) hx1 ?_
  refine lv_aload_n hx hb dL_law_1139 rfl (lv_at hl 3 rfl) ?_
  refine lv_iload_n hx hb dL_law_1140 rfl (lv_at hl 0 rfl) ?_
  refine lv_iconst (v := 2) hx hb dL_law_1141 (by decide) ?_
  refine lv_iadd hx hb dL_law_1142 ?_
  refine va_sld hx hb hX hbl hbA hS (lw_in hv hk2 (by omega) (by omega) (by omega) hL) dL_law_1143 ?_
  refine fx_ti (v := x2) hx2 ?_
  refine mz_ViA (As := [.int x1, .int x2]) (rest := []) ⟨hx, hb, hml, hown, htl⟩ hK hM hS (fun q h => hwge q h) (k_X13_fits l D cy ld ad am hD _ _ _ _ x1 x2 hIF hIG hIR) ⟨callB_of 2 htl (wl_inL mw_1557) rfl rfl rfl (htl _ mw_5) (htl _ mw_1554) hd_yX13_fits ⟨(Nat.le_of_ble_eq_true rfl), (Nat.le_of_ble_eq_true rfl)⟩, htl _ mw_1555, htl _ mw_1556⟩ rfl hl.1 rfl (Nat.le_of_ble_eq_true rfl) dL_law_1144 ⟨by show cells + 0 + 0 ≤ 600000; omega, by show slots + 0 + 0 ≤ 7302250; omega⟩ (fun r2 H locs F G R S hpo hM hS hz9 hq9 => ?_)
  have hG := hG.frame (H1 := H) (fun q hq => hq9 q (hG.lt hq) (hsep q hq))
  obtain ⟨hIF, hIG, hIR, -⟩ := hpo
  refine lv_pop hx hb dL_law_1147 rfl ?_
  refine lv_goto (tgt := 1375) hx hb dL_law_1148 (by decide) ?_
  refine W.widen (k := cells + 7) (n := slots + 1106) (by exact Nat.le_add_right _ _) (by exact Nat.le_add_right _ _) ?_
  exact kk t F G R S H locs ls ⟨ht0, hG, hge, hD, hM, ⟨hIF, hIG, hIR⟩, hsep, hwge⟩ trivial hS hl
set_option maxHeartbeats 4000000 in
set_option maxRecDepth 100000 in
theorem law_33 {p : Program} {l : Launch} {e : Env} {s : State} {m : MethodId} {below : List Frame} {meth : Method} {c : Code} {b L : Nat} {xs : Nat → Int32} (C0 : lw_At p s m meth c b L xs) (htl : ∀ w ∈ wsA, w.before #[Value.ref b] s = true) {D : va_G} {cy : Nat → ClassId} {ld ad : Nat → Nat} (hK : kk_K D cy ld s) (hZ0 : tk_Z ld (fun _ => (0, 0, 0)) s) {t : tk_T} {a0 am : Nat} {F : Nat → Int32} {G : Nat → Int64} {R : Nat → Nat → Int32} {S : Nat → Nat → Int64} {H : Heap} {locs : List Loc} (hI : lw_I D cy ld t ad a0 am s.heap.size F G R S H) (hJ : lw_J D a0 F H) (hS : va_S (fun q : Nat => s.heap.size ≤ q) s.heap H locs) (hS0 : s.heap.size ≤ H.size) (hL : L ≤ 3072) {v : Int32} {i : Int} (hv : v.toInt = i) (hi : 0 ≤ i) (hiL : i + 6 ≤ (L : Int)) {cells slots : Nat} (hc : cells + 7 ≤ 600000) (hs : slots + 1106 ≤ 7302250) (ls : Array Slot) (hl : lv_has ls 4 [(3, .int v), (2, .ref am), (1, .ref a0), (0, .ref b)]) (kk : ∀ (t : tk_T) (F : Nat → Int32) (G : Nat → Int64) (R : Nat → Nat → Int32) (S : Nat → Nat → Int64) (H : Heap) (locs : List Loc) (ls : Array Slot), lw_I D cy ld t ad a0 am s.heap.size F G R S H → lw_J D a0 F H → va_S (fun q : Nat => s.heap.size ≤ q) s.heap H locs → lv_has ls 4 [(3, .int v), (2, .ref am), (1, .ref a0), (0, .ref b)] → W p l e room_1 s m #[Value.ref b] below meth c H locs (cells + 7) (slots + 1106) (lw_Z below #[Value.ref b] s) (F0 m 1375 ls [])) : W p l e room_1 s m #[Value.ref b] below meth c H locs (cells) (slots) (lw_Z below #[Value.ref b] s) (F0 m 1151 ls []) := by
  obtain ⟨hx, hb, hr, hml, hown, hts, hX, hbl, hlocks, hgv⟩ := id C0
  have hown : s.vm.findClass RL = some m.cls := hown
  have hbA : ¬ (fun q : Nat => s.heap.size ≤ q) b := Nat.not_le.mpr hbl
  obtain ⟨ht0, hG, hge, hD, hM, ⟨hIF, hIG, hIR⟩, hsep, hwge⟩ := hI
  have hZ := lw_Z0 hZ0 hge
  have hAZ : ∀ q : Nat, q < s.heap.size → (fun q : Nat => s.heap.size ≤ q) q → (t q).1 ≠ 0 := fun q h1 h2 => absurd h2 (Nat.not_le.mpr h1)
  obtain ⟨x1, hx1⟩ : ∃ z, xs (v + 1 : Int32).toNatClampNeg = z := ⟨_, rfl⟩
  have hk1 : (1 : Int32).toInt = 1 := by decide
  obtain ⟨x2, hx2⟩ : ∃ z, xs (v + 2 : Int32).toNatClampNeg = z := ⟨_, rfl⟩
  have hk2 : (2 : Int32).toInt = 2 := by decide
  refine lv_aload_n hx hb dL_law_1151 rfl (lv_at hl 2 rfl) ?_
  refine lv_aload_n hx hb dL_law_1152 rfl (lv_at hl 3 rfl) ?_
  refine lv_iload_n hx hb dL_law_1153 rfl (lv_at hl 0 rfl) ?_
  refine lv_iconst (v := 1) hx hb dL_law_1154 (by decide) ?_
  refine lv_iadd hx hb dL_law_1155 ?_
  refine va_sld hx hb hX hbl hbA hS (lw_in hv hk1 (by omega) (by omega) (by omega) hL) dL_law_1156 ?_
  refine fx_ti (v := x1) hx1 ?_
  refine lv_aload_n hx hb dL_law_1157 rfl (lv_at hl 3 rfl) ?_
  refine lv_iload_n hx hb dL_law_1158 rfl (lv_at hl 0 rfl) ?_
  refine lv_iconst (v := 2) hx hb dL_law_1159 (by decide) ?_
  refine lv_iadd hx hb dL_law_1160 ?_
  refine va_sld hx hb hX hbl hbA hS (lw_in hv hk2 (by omega) (by omega) (by omega) hL) dL_law_1161 ?_
  refine fx_ti (v := x2) hx2 ?_
  refine tk_ViA (As := [.int x1, .int x2]) (rest := []) (ci := 12) ⟨hx, hb, hml, hown, htl⟩ hK hG hZ hAZ hS (k_X12_catching l D cy ld t a0 x1 x2 ht0) trivial ⟨callB_of 2 htl (wl_inL mw_1574) rfl rfl rfl (htl _ mw_2) (htl _ mw_1571) hd_yX12_catching ⟨(Nat.le_of_ble_eq_true rfl), (Nat.le_of_ble_eq_true rfl)⟩, htl _ mw_1572, htl _ mw_1573⟩ ht0 (by decide) tk_no rfl (fun q h => hge q h.1) rfl hl.1 rfl (Nat.le_of_ble_eq_true rfl) dL_law_1162 ⟨by show cells + 0 ≤ 600000; omega, by show slots + 0 ≤ 7302250; omega⟩ (fun r1 H locs hpo1 hG hS hz9 hq9 => ?_)
  have hM := hM.frame (H1 := H) (fun q hq => hq9 q (hM.lt hq) (fun h => hsep q h.1 hq))
  refine lv_pop hx hb dL_law_1165 rfl ?_
  refine lv_aload_n hx hb dL_law_1166 rfl (lv_at hl 1 rfl) ?_
  refine lv_aload_n hx hb dL_law_1167 rfl (lv_at hl 3 rfl) ?_
  refine lv_iload_n hx hb dL_law_1168 rfl (lv_at hl 0 rfl) ?_
  refine lv_iconst (v := 1) hx hb dL_law_1169 (by decide) ?_
  refine lv_iadd hx hb dL_law_1170 ?_
  refine va_sld hx hb hX hbl hbA hS (lw_in hv hk1 (by omega) (by omega) (by omega) hL) dL_law_1171 ?_
  refine fx_ti (v := x1) hx1 ?_
  refine lv_aload_n hx hb dL_law_1172 rfl (lv_at hl 3 rfl) ?_
  refine lv_iload_n hx hb dL_law_1173 rfl (lv_at hl 0 rfl) ?_
  refine lv_iconst (v := 2) hx hb dL_law_1174 (by decide) ?_
  refine lv_iadd hx hb dL_law_1175 ?_
  refine va_sld hx hb hX hbl hbA hS (lw_in hv hk2 (by omega) (by omega) (by omega) hL) dL_law_1176 ?_
  refine fx_ti (v := x2) hx2 ?_
  refine mz_ViA (As := [.int x1, .int x2]) (rest := []) ⟨hx, hb, hml, hown, htl⟩ hK hM hS (fun q h => hwge q h) (k_X13_catching l D cy ld ad am hD _ _ _ _ x1 x2 hIF hIG hIR) ⟨callB_of 2 htl (wl_inL mw_1594) rfl rfl rfl (htl _ mw_5) (htl _ mw_1591) hd_yX13_catching ⟨(Nat.le_of_ble_eq_true rfl), (Nat.le_of_ble_eq_true rfl)⟩, htl _ mw_1592, htl _ mw_1593⟩ rfl hl.1 rfl (Nat.le_of_ble_eq_true rfl) dL_law_1177 ⟨by show cells + 0 + 0 ≤ 600000; omega, by show slots + 0 + 0 ≤ 7302250; omega⟩ (fun r2 H locs F G R S hpo hM hS hz9 hq9 => ?_)
  have hG := hG.frame (H1 := H) (fun q hq => hq9 q (hG.lt hq) (hsep q hq))
  obtain ⟨hIF, hIG, hIR, -⟩ := hpo
  refine lv_pop hx hb dL_law_1180 rfl ?_
  refine lv_goto (tgt := 1375) hx hb dL_law_1181 (by decide) ?_
  refine W.widen (k := cells + 7) (n := slots + 1106) (by exact Nat.le_add_right _ _) (by exact Nat.le_add_right _ _) ?_
  exact kk t F G R S H locs ls ⟨ht0, hG, hge, hD, hM, ⟨hIF, hIG, hIR⟩, hsep, hwge⟩ trivial hS hl
set_option maxHeartbeats 4000000 in
set_option maxRecDepth 100000 in
theorem law_34 {p : Program} {l : Launch} {e : Env} {s : State} {m : MethodId} {below : List Frame} {meth : Method} {c : Code} {b L : Nat} {xs : Nat → Int32} (C0 : lw_At p s m meth c b L xs) (htl : ∀ w ∈ wsA, w.before #[Value.ref b] s = true) {D : va_G} {cy : Nat → ClassId} {ld ad : Nat → Nat} (hK : kk_K D cy ld s) (hZ0 : tk_Z ld (fun _ => (0, 0, 0)) s) {t : tk_T} {a0 am : Nat} {F : Nat → Int32} {G : Nat → Int64} {R : Nat → Nat → Int32} {S : Nat → Nat → Int64} {H : Heap} {locs : List Loc} (hI : lw_I D cy ld t ad a0 am s.heap.size F G R S H) (hJ : lw_J D a0 F H) (hS : va_S (fun q : Nat => s.heap.size ≤ q) s.heap H locs) (hS0 : s.heap.size ≤ H.size) (hL : L ≤ 3072) {v : Int32} {i : Int} (hv : v.toInt = i) (hi : 0 ≤ i) (hiL : i + 6 ≤ (L : Int)) {cells slots : Nat} (hc : cells + 7 ≤ 600000) (hs : slots + 1106 ≤ 7302250) (ls : Array Slot) (hl : lv_has ls 4 [(3, .int v), (2, .ref am), (1, .ref a0), (0, .ref b)]) (kk : ∀ (t : tk_T) (F : Nat → Int32) (G : Nat → Int64) (R : Nat → Nat → Int32) (S : Nat → Nat → Int64) (H : Heap) (locs : List Loc) (ls : Array Slot), lw_I D cy ld t ad a0 am s.heap.size F G R S H → lw_J D a0 F H → va_S (fun q : Nat => s.heap.size ≤ q) s.heap H locs → lv_has ls 4 [(3, .int v), (2, .ref am), (1, .ref a0), (0, .ref b)] → W p l e room_1 s m #[Value.ref b] below meth c H locs (cells + 7) (slots + 1106) (lw_Z below #[Value.ref b] s) (F0 m 1375 ls [])) : W p l e room_1 s m #[Value.ref b] below meth c H locs (cells) (slots) (lw_Z below #[Value.ref b] s) (F0 m 1184 ls []) := by
  obtain ⟨hx, hb, hr, hml, hown, hts, hX, hbl, hlocks, hgv⟩ := id C0
  have hown : s.vm.findClass RL = some m.cls := hown
  have hbA : ¬ (fun q : Nat => s.heap.size ≤ q) b := Nat.not_le.mpr hbl
  obtain ⟨ht0, hG, hge, hD, hM, ⟨hIF, hIG, hIR⟩, hsep, hwge⟩ := hI
  have hZ := lw_Z0 hZ0 hge
  have hAZ : ∀ q : Nat, q < s.heap.size → (fun q : Nat => s.heap.size ≤ q) q → (t q).1 ≠ 0 := fun q h1 h2 => absurd h2 (Nat.not_le.mpr h1)
  obtain ⟨x1, hx1⟩ : ∃ z, xs (v + 1 : Int32).toNatClampNeg = z := ⟨_, rfl⟩
  have hk1 : (1 : Int32).toInt = 1 := by decide
  obtain ⟨x2, hx2⟩ : ∃ z, xs (v + 2 : Int32).toNatClampNeg = z := ⟨_, rfl⟩
  have hk2 : (2 : Int32).toInt = 2 := by decide
  obtain ⟨x3, hx3⟩ : ∃ z, xs (v + 3 : Int32).toNatClampNeg = z := ⟨_, rfl⟩
  have hk3 : (3 : Int32).toInt = 3 := by decide
  refine lv_aload_n hx hb dL_law_1184 rfl (lv_at hl 2 rfl) ?_
  refine lv_aload_n hx hb dL_law_1185 rfl (lv_at hl 3 rfl) ?_
  refine lv_iload_n hx hb dL_law_1186 rfl (lv_at hl 0 rfl) ?_
  refine lv_iconst (v := 1) hx hb dL_law_1187 (by decide) ?_
  refine lv_iadd hx hb dL_law_1188 ?_
  refine va_sld hx hb hX hbl hbA hS (lw_in hv hk1 (by omega) (by omega) (by omega) hL) dL_law_1189 ?_
  refine fx_ti (v := x1) hx1 ?_
  refine lv_aload_n hx hb dL_law_1190 rfl (lv_at hl 3 rfl) ?_
  refine lv_iload_n hx hb dL_law_1191 rfl (lv_at hl 0 rfl) ?_
  refine lv_iconst (v := 2) hx hb dL_law_1192 (by decide) ?_
  refine lv_iadd hx hb dL_law_1193 ?_
  refine va_sld hx hb hX hbl hbA hS (lw_in hv hk2 (by omega) (by omega) (by omega) hL) dL_law_1194 ?_
  refine fx_ti (v := x2) hx2 ?_
  refine lv_aload_n hx hb dL_law_1195 rfl (lv_at hl 3 rfl) ?_
  refine lv_iload_n hx hb dL_law_1196 rfl (lv_at hl 0 rfl) ?_
  refine lv_iconst (v := 3) hx hb dL_law_1197 (by decide) ?_
  refine lv_iadd hx hb dL_law_1198 ?_
  refine va_sld hx hb hX hbl hbA hS (lw_in hv hk3 (by omega) (by omega) (by omega) hL) dL_law_1199 ?_
  refine fx_ti (v := x3) hx3 ?_
  refine tk_ViA (As := [.int x1, .int x2, .int x3]) (rest := []) (ci := 12) ⟨hx, hb, hml, hown, htl⟩ hK hG hZ hAZ hS (k_X12_keep l D cy ld t a0 x1 x2 x3 ht0) trivial ⟨callB_of 3 htl (wl_inL mw_1606) rfl rfl rfl (htl _ mw_2) (htl _ mw_1603) hd_yX12_keep ⟨(Nat.le_of_ble_eq_true rfl), (Nat.le_of_ble_eq_true rfl)⟩, htl _ mw_1604, htl _ mw_1605⟩ ht0 (by decide) tk_no rfl (fun q h => hge q h.1) rfl hl.1 rfl (Nat.le_of_ble_eq_true rfl) dL_law_1200 ⟨by show cells + 0 ≤ 600000; omega, by show slots + 0 ≤ 7302250; omega⟩ (fun r1 H locs hpo1 hG hS hz9 hq9 => ?_)
  have hM := hM.frame (H1 := H) (fun q hq => hq9 q (hM.lt hq) (fun h => hsep q h.1 hq))
  refine lv_pop hx hb dL_law_1203 rfl ?_
  refine lv_aload_n hx hb dL_law_1204 rfl (lv_at hl 1 rfl) ?_
  refine lv_aload_n hx hb dL_law_1205 rfl (lv_at hl 3 rfl) ?_
  refine lv_iload_n hx hb dL_law_1206 rfl (lv_at hl 0 rfl) ?_
  refine lv_iconst (v := 1) hx hb dL_law_1207 (by decide) ?_
  refine lv_iadd hx hb dL_law_1208 ?_
  refine va_sld hx hb hX hbl hbA hS (lw_in hv hk1 (by omega) (by omega) (by omega) hL) dL_law_1209 ?_
  refine fx_ti (v := x1) hx1 ?_
  refine lv_aload_n hx hb dL_law_1210 rfl (lv_at hl 3 rfl) ?_
  refine lv_iload_n hx hb dL_law_1211 rfl (lv_at hl 0 rfl) ?_
  refine lv_iconst (v := 2) hx hb dL_law_1212 (by decide) ?_
  refine lv_iadd hx hb dL_law_1213 ?_
  refine va_sld hx hb hX hbl hbA hS (lw_in hv hk2 (by omega) (by omega) (by omega) hL) dL_law_1214 ?_
  refine fx_ti (v := x2) hx2 ?_
  refine lv_aload_n hx hb dL_law_1215 rfl (lv_at hl 3 rfl) ?_
  refine lv_iload_n hx hb dL_law_1216 rfl (lv_at hl 0 rfl) ?_
  refine lv_iconst (v := 3) hx hb dL_law_1217 (by decide) ?_
  refine lv_iadd hx hb dL_law_1218 ?_
  refine va_sld hx hb hX hbl hbA hS (lw_in hv hk3 (by omega) (by omega) (by omega) hL) dL_law_1219 ?_
  refine fx_ti (v := x3) hx3 ?_
  refine mz_ViA (As := [.int x1, .int x2, .int x3]) (rest := []) ⟨hx, hb, hml, hown, htl⟩ hK hM hS (fun q h => hwge q h) (k_X13_keep l D cy ld ad am hD _ _ _ _ x1 x2 x3 hIF hIG hIR) ⟨callB_of 3 htl (wl_inL mw_1623) rfl rfl rfl (htl _ mw_5) (htl _ mw_1620) hd_yX13_keep ⟨(Nat.le_of_ble_eq_true rfl), (Nat.le_of_ble_eq_true rfl)⟩, htl _ mw_1621, htl _ mw_1622⟩ rfl hl.1 rfl (Nat.le_of_ble_eq_true rfl) dL_law_1220 ⟨by show cells + 0 + 0 ≤ 600000; omega, by show slots + 0 + 0 ≤ 7302250; omega⟩ (fun r2 H locs F G R S hpo hM hS hz9 hq9 => ?_)
  have hG := hG.frame (H1 := H) (fun q hq => hq9 q (hG.lt hq) (hsep q hq))
  obtain ⟨hIF, hIG, hIR, -⟩ := hpo
  refine lv_pop hx hb dL_law_1223 rfl ?_
  refine lv_goto (tgt := 1375) hx hb dL_law_1224 (by decide) ?_
  refine W.widen (k := cells + 7) (n := slots + 1106) (by exact Nat.le_add_right _ _) (by exact Nat.le_add_right _ _) ?_
  exact kk t F G R S H locs ls ⟨ht0, hG, hge, hD, hM, ⟨hIF, hIG, hIR⟩, hsep, hwge⟩ trivial hS hl
set_option maxHeartbeats 4000000 in
set_option maxRecDepth 100000 in
theorem law_35 {p : Program} {l : Launch} {e : Env} {s : State} {m : MethodId} {below : List Frame} {meth : Method} {c : Code} {b L : Nat} {xs : Nat → Int32} (C0 : lw_At p s m meth c b L xs) (htl : ∀ w ∈ wsA, w.before #[Value.ref b] s = true) {D : va_G} {cy : Nat → ClassId} {ld ad : Nat → Nat} (hK : kk_K D cy ld s) (hZ0 : tk_Z ld (fun _ => (0, 0, 0)) s) {t : tk_T} {a0 am : Nat} {F : Nat → Int32} {G : Nat → Int64} {R : Nat → Nat → Int32} {S : Nat → Nat → Int64} {H : Heap} {locs : List Loc} (hI : lw_I D cy ld t ad a0 am s.heap.size F G R S H) (hJ : lw_J D a0 F H) (hS : va_S (fun q : Nat => s.heap.size ≤ q) s.heap H locs) (hS0 : s.heap.size ≤ H.size) (hL : L ≤ 3072) {v : Int32} {i : Int} (hv : v.toInt = i) (hi : 0 ≤ i) (hiL : i + 6 ≤ (L : Int)) {cells slots : Nat} (hc : cells + 7 ≤ 600000) (hs : slots + 1106 ≤ 7302250) (ls : Array Slot) (hl : lv_has ls 4 [(3, .int v), (2, .ref am), (1, .ref a0), (0, .ref b)]) (kk : ∀ (t : tk_T) (F : Nat → Int32) (G : Nat → Int64) (R : Nat → Nat → Int32) (S : Nat → Nat → Int64) (H : Heap) (locs : List Loc) (ls : Array Slot), lw_I D cy ld t ad a0 am s.heap.size F G R S H → lw_J D a0 F H → va_S (fun q : Nat => s.heap.size ≤ q) s.heap H locs → lv_has ls 4 [(3, .int v), (2, .ref am), (1, .ref a0), (0, .ref b)] → W p l e room_1 s m #[Value.ref b] below meth c H locs (cells + 7) (slots + 1106) (lw_Z below #[Value.ref b] s) (F0 m 1375 ls [])) : W p l e room_1 s m #[Value.ref b] below meth c H locs (cells) (slots) (lw_Z below #[Value.ref b] s) (F0 m 1227 ls []) := by
  obtain ⟨hx, hb, hr, hml, hown, hts, hX, hbl, hlocks, hgv⟩ := id C0
  have hown : s.vm.findClass RL = some m.cls := hown
  have hbA : ¬ (fun q : Nat => s.heap.size ≤ q) b := Nat.not_le.mpr hbl
  obtain ⟨ht0, hG, hge, hD, hM, ⟨hIF, hIG, hIR⟩, hsep, hwge⟩ := hI
  have hZ := lw_Z0 hZ0 hge
  have hAZ : ∀ q : Nat, q < s.heap.size → (fun q : Nat => s.heap.size ≤ q) q → (t q).1 ≠ 0 := fun q h1 h2 => absurd h2 (Nat.not_le.mpr h1)
  obtain ⟨x1, hx1⟩ : ∃ z, xs (v + 1 : Int32).toNatClampNeg = z := ⟨_, rfl⟩
  have hk1 : (1 : Int32).toInt = 1 := by decide
  obtain ⟨x2, hx2⟩ : ∃ z, xs (v + 2 : Int32).toNatClampNeg = z := ⟨_, rfl⟩
  have hk2 : (2 : Int32).toInt = 2 := by decide
  refine lv_aload_n hx hb dL_law_1227 rfl (lv_at hl 2 rfl) ?_
  refine lv_aload_n hx hb dL_law_1228 rfl (lv_at hl 3 rfl) ?_
  refine lv_iload_n hx hb dL_law_1229 rfl (lv_at hl 0 rfl) ?_
  refine lv_iconst (v := 1) hx hb dL_law_1230 (by decide) ?_
  refine lv_iadd hx hb dL_law_1231 ?_
  refine va_sld hx hb hX hbl hbA hS (lw_in hv hk1 (by omega) (by omega) (by omega) hL) dL_law_1232 ?_
  refine fx_ti (v := x1) hx1 ?_
  refine lv_aload_n hx hb dL_law_1233 rfl (lv_at hl 3 rfl) ?_
  refine lv_iload_n hx hb dL_law_1234 rfl (lv_at hl 0 rfl) ?_
  refine lv_iconst (v := 2) hx hb dL_law_1235 (by decide) ?_
  refine lv_iadd hx hb dL_law_1236 ?_
  refine va_sld hx hb hX hbl hbA hS (lw_in hv hk2 (by omega) (by omega) (by omega) hL) dL_law_1237 ?_
  refine fx_ti (v := x2) hx2 ?_
  refine tk_ViA (As := [.int x1, .int x2]) (rest := []) (ci := 12) ⟨hx, hb, hml, hown, htl⟩ hK hG hZ hAZ hS (k_X12_decade l D cy ld t a0 x1 x2 ht0) trivial ⟨callB_of 2 htl (wl_inL mw_1630) rfl rfl rfl (htl _ mw_2) (htl _ mw_1627) hd_yX12_decade ⟨(Nat.le_of_ble_eq_true rfl), (Nat.le_of_ble_eq_true rfl)⟩, htl _ mw_1628, htl _ mw_1629⟩ ht0 (by decide) tk_no rfl (fun q h => hge q h.1) rfl hl.1 rfl (Nat.le_of_ble_eq_true rfl) dL_law_1238 ⟨by show cells + 0 ≤ 600000; omega, by show slots + 0 ≤ 7302250; omega⟩ (fun r1 H locs hpo1 hG hS hz9 hq9 => ?_)
  have hM := hM.frame (H1 := H) (fun q hq => hq9 q (hM.lt hq) (fun h => hsep q h.1 hq))
  refine lv_pop hx hb dL_law_1241 rfl ?_
  refine lv_aload_n hx hb dL_law_1242 rfl (lv_at hl 1 rfl) ?_
  refine lv_aload_n hx hb dL_law_1243 rfl (lv_at hl 3 rfl) ?_
  refine lv_iload_n hx hb dL_law_1244 rfl (lv_at hl 0 rfl) ?_
  refine lv_iconst (v := 1) hx hb dL_law_1245 (by decide) ?_
  refine lv_iadd hx hb dL_law_1246 ?_
  refine va_sld hx hb hX hbl hbA hS (lw_in hv hk1 (by omega) (by omega) (by omega) hL) dL_law_1247 ?_
  refine fx_ti (v := x1) hx1 ?_
  refine lv_aload_n hx hb dL_law_1248 rfl (lv_at hl 3 rfl) ?_
  refine lv_iload_n hx hb dL_law_1249 rfl (lv_at hl 0 rfl) ?_
  refine lv_iconst (v := 2) hx hb dL_law_1250 (by decide) ?_
  refine lv_iadd hx hb dL_law_1251 ?_
  refine va_sld hx hb hX hbl hbA hS (lw_in hv hk2 (by omega) (by omega) (by omega) hL) dL_law_1252 ?_
  refine fx_ti (v := x2) hx2 ?_
  refine mz_ViA (As := [.int x1, .int x2]) (rest := []) ⟨hx, hb, hml, hown, htl⟩ hK hM hS (fun q h => hwge q h) (k_X13_decade l D cy ld ad am hD _ _ _ _ x1 x2 _ hIF hIG hIR rfl) ⟨callB_of 2 htl (wl_inL mw_1683) rfl rfl rfl (htl _ mw_5) (htl _ mw_1680) hd_yX13_decade ⟨(Nat.le_of_ble_eq_true rfl), (Nat.le_of_ble_eq_true rfl)⟩, htl _ mw_1681, htl _ mw_1682⟩ rfl hl.1 rfl (Nat.le_of_ble_eq_true rfl) dL_law_1253 ⟨by show cells + 0 + 0 ≤ 600000; omega, by show slots + 0 + 0 ≤ 7302250; omega⟩ (fun r2 H locs F G R S hpo hM hS hz9 hq9 => ?_)
  have hG := hG.frame (H1 := H) (fun q hq => hq9 q (hG.lt hq) (hsep q hq))
  obtain ⟨hIF, hIG, hIR, -⟩ := hpo
  refine lv_pop hx hb dL_law_1256 rfl ?_
  refine lv_goto (tgt := 1375) hx hb dL_law_1257 (by decide) ?_
  refine W.widen (k := cells + 7) (n := slots + 1106) (by exact Nat.le_add_right _ _) (by exact Nat.le_add_right _ _) ?_
  exact kk t F G R S H locs ls ⟨ht0, hG, hge, hD, hM, ⟨hIF, hIG, hIR⟩, hsep, hwge⟩ trivial hS hl
set_option maxHeartbeats 4000000 in
set_option maxRecDepth 100000 in
theorem law_36 {p : Program} {l : Launch} {e : Env} {s : State} {m : MethodId} {below : List Frame} {meth : Method} {c : Code} {b L : Nat} {xs : Nat → Int32} (C0 : lw_At p s m meth c b L xs) (htl : ∀ w ∈ wsA, w.before #[Value.ref b] s = true) {D : va_G} {cy : Nat → ClassId} {ld ad : Nat → Nat} (hK : kk_K D cy ld s) (hZ0 : tk_Z ld (fun _ => (0, 0, 0)) s) {t : tk_T} {a0 am : Nat} {F : Nat → Int32} {G : Nat → Int64} {R : Nat → Nat → Int32} {S : Nat → Nat → Int64} {H : Heap} {locs : List Loc} (hI : lw_I D cy ld t ad a0 am s.heap.size F G R S H) (hJ : lw_J D a0 F H) (hS : va_S (fun q : Nat => s.heap.size ≤ q) s.heap H locs) (hS0 : s.heap.size ≤ H.size) (hL : L ≤ 3072) {v : Int32} {i : Int} (hv : v.toInt = i) (hi : 0 ≤ i) (hiL : i + 6 ≤ (L : Int)) {cells slots : Nat} (hc : cells + 7 ≤ 600000) (hs : slots + 1106 ≤ 7302250) (ls : Array Slot) (hl : lv_has ls 4 [(3, .int v), (2, .ref am), (1, .ref a0), (0, .ref b)]) (kk : ∀ (t : tk_T) (F : Nat → Int32) (G : Nat → Int64) (R : Nat → Nat → Int32) (S : Nat → Nat → Int64) (H : Heap) (locs : List Loc) (ls : Array Slot), lw_I D cy ld t ad a0 am s.heap.size F G R S H → lw_J D a0 F H → va_S (fun q : Nat => s.heap.size ≤ q) s.heap H locs → lv_has ls 4 [(3, .int v), (2, .ref am), (1, .ref a0), (0, .ref b)] → W p l e room_1 s m #[Value.ref b] below meth c H locs (cells + 7) (slots + 1106) (lw_Z below #[Value.ref b] s) (F0 m 1375 ls [])) : W p l e room_1 s m #[Value.ref b] below meth c H locs (cells) (slots) (lw_Z below #[Value.ref b] s) (F0 m 1260 ls []) := by
  obtain ⟨hx, hb, hr, hml, hown, hts, hX, hbl, hlocks, hgv⟩ := id C0
  have hown : s.vm.findClass RL = some m.cls := hown
  have hbA : ¬ (fun q : Nat => s.heap.size ≤ q) b := Nat.not_le.mpr hbl
  obtain ⟨ht0, hG, hge, hD, hM, ⟨hIF, hIG, hIR⟩, hsep, hwge⟩ := hI
  have hZ := lw_Z0 hZ0 hge
  have hAZ : ∀ q : Nat, q < s.heap.size → (fun q : Nat => s.heap.size ≤ q) q → (t q).1 ≠ 0 := fun q h1 h2 => absurd h2 (Nat.not_le.mpr h1)
  obtain ⟨x1, hx1⟩ : ∃ z, xs (v + 1 : Int32).toNatClampNeg = z := ⟨_, rfl⟩
  have hk1 : (1 : Int32).toInt = 1 := by decide
  obtain ⟨x2, hx2⟩ : ∃ z, xs (v + 2 : Int32).toNatClampNeg = z := ⟨_, rfl⟩
  have hk2 : (2 : Int32).toInt = 2 := by decide
  refine lv_aload_n hx hb dL_law_1260 rfl (lv_at hl 2 rfl) ?_
  refine lv_aload_n hx hb dL_law_1261 rfl (lv_at hl 3 rfl) ?_
  refine lv_iload_n hx hb dL_law_1262 rfl (lv_at hl 0 rfl) ?_
  refine lv_iconst (v := 1) hx hb dL_law_1263 (by decide) ?_
  refine lv_iadd hx hb dL_law_1264 ?_
  refine va_sld hx hb hX hbl hbA hS (lw_in hv hk1 (by omega) (by omega) (by omega) hL) dL_law_1265 ?_
  refine fx_ti (v := x1) hx1 ?_
  refine lv_aload_n hx hb dL_law_1266 rfl (lv_at hl 3 rfl) ?_
  refine lv_iload_n hx hb dL_law_1267 rfl (lv_at hl 0 rfl) ?_
  refine lv_iconst (v := 2) hx hb dL_law_1268 (by decide) ?_
  refine lv_iadd hx hb dL_law_1269 ?_
  refine va_sld hx hb hX hbl hbA hS (lw_in hv hk2 (by omega) (by omega) (by omega) hL) dL_law_1270 ?_
  refine fx_ti (v := x2) hx2 ?_
  refine tk_ViA (As := [.int x1, .int x2]) (rest := []) (ci := 12) ⟨hx, hb, hml, hown, htl⟩ hK hG hZ hAZ hS (k_X12_drawn l D cy ld t a0 x1 x2 ht0) trivial ⟨callB_of 2 htl (wl_inL mw_1696) rfl rfl rfl (htl _ mw_2) (htl _ mw_1693) hd_yX12_drawn ⟨(Nat.le_of_ble_eq_true rfl), (Nat.le_of_ble_eq_true rfl)⟩, htl _ mw_1694, htl _ mw_1695⟩ ht0 (by decide) tk_no rfl (fun q h => hge q h.1) rfl hl.1 rfl (Nat.le_of_ble_eq_true rfl) dL_law_1271 ⟨by show cells + 0 ≤ 600000; omega, by show slots + 0 ≤ 7302250; omega⟩ (fun r1 H locs hpo1 hG hS hz9 hq9 => ?_)
  have hM := hM.frame (H1 := H) (fun q hq => hq9 q (hM.lt hq) (fun h => hsep q h.1 hq))
  refine lv_pop hx hb dL_law_1274 rfl ?_
  refine lv_aload_n hx hb dL_law_1275 rfl (lv_at hl 1 rfl) ?_
  refine lv_aload_n hx hb dL_law_1276 rfl (lv_at hl 3 rfl) ?_
  refine lv_iload_n hx hb dL_law_1277 rfl (lv_at hl 0 rfl) ?_
  refine lv_iconst (v := 1) hx hb dL_law_1278 (by decide) ?_
  refine lv_iadd hx hb dL_law_1279 ?_
  refine va_sld hx hb hX hbl hbA hS (lw_in hv hk1 (by omega) (by omega) (by omega) hL) dL_law_1280 ?_
  refine fx_ti (v := x1) hx1 ?_
  refine lv_aload_n hx hb dL_law_1281 rfl (lv_at hl 3 rfl) ?_
  refine lv_iload_n hx hb dL_law_1282 rfl (lv_at hl 0 rfl) ?_
  refine lv_iconst (v := 2) hx hb dL_law_1283 (by decide) ?_
  refine lv_iadd hx hb dL_law_1284 ?_
  refine va_sld hx hb hX hbl hbA hS (lw_in hv hk2 (by omega) (by omega) (by omega) hL) dL_law_1285 ?_
  refine fx_ti (v := x2) hx2 ?_
  refine mz_ViA (As := [.int x1, .int x2]) (rest := []) ⟨hx, hb, hml, hown, htl⟩ hK hM hS (fun q h => hwge q h) (k_X13_drawn l D cy ld ad am hD _ _ _ _ x1 x2 hIF hIG hIR) ⟨callB_of 2 htl (wl_inL mw_1703) rfl rfl rfl (htl _ mw_5) (htl _ mw_1700) hd_yX13_drawn ⟨(Nat.le_of_ble_eq_true rfl), (Nat.le_of_ble_eq_true rfl)⟩, htl _ mw_1701, htl _ mw_1702⟩ rfl hl.1 rfl (Nat.le_of_ble_eq_true rfl) dL_law_1286 ⟨by show cells + 0 + 0 ≤ 600000; omega, by show slots + 0 + 0 ≤ 7302250; omega⟩ (fun r2 H locs F G R S hpo hM hS hz9 hq9 => ?_)
  have hG := hG.frame (H1 := H) (fun q hq => hq9 q (hG.lt hq) (hsep q hq))
  obtain ⟨hIF, hIG, hIR, -⟩ := hpo
  refine lv_pop hx hb dL_law_1289 rfl ?_
  refine lv_goto (tgt := 1375) hx hb dL_law_1290 (by decide) ?_
  refine W.widen (k := cells + 7) (n := slots + 1106) (by exact Nat.le_add_right _ _) (by exact Nat.le_add_right _ _) ?_
  exact kk t F G R S H locs ls ⟨ht0, hG, hge, hD, hM, ⟨hIF, hIG, hIR⟩, hsep, hwge⟩ trivial hS hl
set_option maxHeartbeats 4000000 in
set_option maxRecDepth 100000 in
theorem law_37 {p : Program} {l : Launch} {e : Env} {s : State} {m : MethodId} {below : List Frame} {meth : Method} {c : Code} {b L : Nat} {xs : Nat → Int32} (C0 : lw_At p s m meth c b L xs) (htl : ∀ w ∈ wsA, w.before #[Value.ref b] s = true) {D : va_G} {cy : Nat → ClassId} {ld ad : Nat → Nat} (hK : kk_K D cy ld s) (hZ0 : tk_Z ld (fun _ => (0, 0, 0)) s) {t : tk_T} {a0 am : Nat} {F : Nat → Int32} {G : Nat → Int64} {R : Nat → Nat → Int32} {S : Nat → Nat → Int64} {H : Heap} {locs : List Loc} (hI : lw_I D cy ld t ad a0 am s.heap.size F G R S H) (hJ : lw_J D a0 F H) (hS : va_S (fun q : Nat => s.heap.size ≤ q) s.heap H locs) (hS0 : s.heap.size ≤ H.size) (hL : L ≤ 3072) {v : Int32} {i : Int} (hv : v.toInt = i) (hi : 0 ≤ i) (hiL : i + 6 ≤ (L : Int)) {cells slots : Nat} (hc : cells + 7 ≤ 600000) (hs : slots + 1106 ≤ 7302250) (ls : Array Slot) (hl : lv_has ls 4 [(3, .int v), (2, .ref am), (1, .ref a0), (0, .ref b)]) (kk : ∀ (t : tk_T) (F : Nat → Int32) (G : Nat → Int64) (R : Nat → Nat → Int32) (S : Nat → Nat → Int64) (H : Heap) (locs : List Loc) (ls : Array Slot), lw_I D cy ld t ad a0 am s.heap.size F G R S H → lw_J D a0 F H → va_S (fun q : Nat => s.heap.size ≤ q) s.heap H locs → lv_has ls 4 [(3, .int v), (2, .ref am), (1, .ref a0), (0, .ref b)] → W p l e room_1 s m #[Value.ref b] below meth c H locs (cells + 7) (slots + 1106) (lw_Z below #[Value.ref b] s) (F0 m 1375 ls [])) : W p l e room_1 s m #[Value.ref b] below meth c H locs (cells) (slots) (lw_Z below #[Value.ref b] s) (F0 m 1293 ls []) := by
  obtain ⟨hx, hb, hr, hml, hown, hts, hX, hbl, hlocks, hgv⟩ := id C0
  have hown : s.vm.findClass RL = some m.cls := hown
  have hbA : ¬ (fun q : Nat => s.heap.size ≤ q) b := Nat.not_le.mpr hbl
  obtain ⟨ht0, hG, hge, hD, hM, ⟨hIF, hIG, hIR⟩, hsep, hwge⟩ := hI
  have hZ := lw_Z0 hZ0 hge
  have hAZ : ∀ q : Nat, q < s.heap.size → (fun q : Nat => s.heap.size ≤ q) q → (t q).1 ≠ 0 := fun q h1 h2 => absurd h2 (Nat.not_le.mpr h1)
  obtain ⟨x1, hx1⟩ : ∃ z, xs (v + 1 : Int32).toNatClampNeg = z := ⟨_, rfl⟩
  have hk1 : (1 : Int32).toInt = 1 := by decide
  refine lv_aload_n hx hb dL_law_1293 rfl (lv_at hl 2 rfl) ?_
  refine lv_aload_n hx hb dL_law_1294 rfl (lv_at hl 3 rfl) ?_
  refine lv_iload_n hx hb dL_law_1295 rfl (lv_at hl 0 rfl) ?_
  refine lv_iconst (v := 1) hx hb dL_law_1296 (by decide) ?_
  refine lv_iadd hx hb dL_law_1297 ?_
  refine va_sld hx hb hX hbl hbA hS (lw_in hv hk1 (by omega) (by omega) (by omega) hL) dL_law_1298 ?_
  refine fx_ti (v := x1) hx1 ?_
  refine tk_ViA (As := [.int x1]) (rest := []) (ci := 12) ⟨hx, hb, hml, hown, htl⟩ hK hG hZ hAZ hS (k_X12_image_x l D cy ld t a0 x1 ht0) trivial ⟨callB_of 1 htl (wl_inL mw_1707) rfl rfl rfl (htl _ mw_2) (htl _ mw_1704) hd_yX12_image ⟨(Nat.le_of_ble_eq_true rfl), (Nat.le_of_ble_eq_true rfl)⟩, htl _ mw_1705, htl _ mw_1706⟩ ht0 (by decide) tk_no rfl (fun q h => hge q h.1) rfl hl.1 rfl (Nat.le_of_ble_eq_true rfl) dL_law_1299 ⟨by show cells + 0 ≤ 600000; omega, by show slots + 0 ≤ 7302250; omega⟩ (fun r1 H locs hpo1 hG hS hz9 hq9 => ?_)
  have hM := hM.frame (H1 := H) (fun q hq => hq9 q (hM.lt hq) (fun h => hsep q h.1 hq))
  refine lv_aload_n hx hb dL_law_1302 rfl (lv_at hl 1 rfl) ?_
  refine lv_aload_n hx hb dL_law_1303 rfl (lv_at hl 3 rfl) ?_
  refine lv_iload_n hx hb dL_law_1304 rfl (lv_at hl 0 rfl) ?_
  refine lv_iconst (v := 1) hx hb dL_law_1305 (by decide) ?_
  refine lv_iadd hx hb dL_law_1306 ?_
  refine va_sld hx hb hX hbl hbA hS (lw_in hv hk1 (by omega) (by omega) (by omega) hL) dL_law_1307 ?_
  refine fx_ti (v := x1) hx1 ?_
  refine mz_ViA (As := [.int x1]) (rest := [.int r1]) ⟨hx, hb, hml, hown, htl⟩ hK hM hS (fun q h => hwge q h) (k_X13_image_x l D cy ld ad am hD _ _ _ _ x1 hIF hIG hIR) ⟨callB_of 1 htl (wl_inL mw_1717) rfl rfl rfl (htl _ mw_5) (htl _ mw_1714) hd_yX13_image ⟨(Nat.le_of_ble_eq_true rfl), (Nat.le_of_ble_eq_true rfl)⟩, htl _ mw_1715, htl _ mw_1716⟩ rfl hl.1 rfl (Nat.le_of_ble_eq_true rfl) dL_law_1308 ⟨by show cells + 0 + 0 ≤ 600000; omega, by show slots + 0 + 0 ≤ 7302250; omega⟩ (fun r2 H locs F G R S hpo hM hS hz9 hq9 => ?_)
  have hG := hG.frame (H1 := H) (fun q hq => hq9 q (hG.lt hq) (hsep q hq))
  obtain ⟨hIF, hIG, hIR, hfr9, hrr9, hgr9, hp2_0, hp2_1, hp2_2⟩ := hpo
  obtain ⟨hp1_0, hp1_1, hp1_2⟩ := hpo1
  refine lv_icmp_eq (tgt := 1375) hx hb dL_law_1311 (by decide) (fun _ => ?_) (fun c9 => (c9 ((fi_eq rfl rfl).mpr (by omega))).elim)
  refine W.widen (k := cells + 7) (n := slots + 1106) (by exact Nat.le_add_right _ _) (by exact Nat.le_add_right _ _) ?_
  exact kk t F G R S H locs ls ⟨ht0, hG, hge, hD, hM, ⟨hIF, hIG, hIR⟩, hsep, hwge⟩ trivial hS hl
set_option maxHeartbeats 4000000 in
set_option maxRecDepth 100000 in
theorem law_38 {p : Program} {l : Launch} {e : Env} {s : State} {m : MethodId} {below : List Frame} {meth : Method} {c : Code} {b L : Nat} {xs : Nat → Int32} (C0 : lw_At p s m meth c b L xs) (htl : ∀ w ∈ wsA, w.before #[Value.ref b] s = true) {D : va_G} {cy : Nat → ClassId} {ld ad : Nat → Nat} (hK : kk_K D cy ld s) (hZ0 : tk_Z ld (fun _ => (0, 0, 0)) s) {t : tk_T} {a0 am : Nat} {F : Nat → Int32} {G : Nat → Int64} {R : Nat → Nat → Int32} {S : Nat → Nat → Int64} {H : Heap} {locs : List Loc} (hI : lw_I D cy ld t ad a0 am s.heap.size F G R S H) (hJ : lw_J D a0 F H) (hS : va_S (fun q : Nat => s.heap.size ≤ q) s.heap H locs) (hS0 : s.heap.size ≤ H.size) (hL : L ≤ 3072) {v : Int32} {i : Int} (hv : v.toInt = i) (hi : 0 ≤ i) (hiL : i + 6 ≤ (L : Int)) {cells slots : Nat} (hc : cells + 7 ≤ 600000) (hs : slots + 1106 ≤ 7302250) (ls : Array Slot) (hl : lv_has ls 4 [(3, .int v), (2, .ref am), (1, .ref a0), (0, .ref b)]) (kk : ∀ (t : tk_T) (F : Nat → Int32) (G : Nat → Int64) (R : Nat → Nat → Int32) (S : Nat → Nat → Int64) (H : Heap) (locs : List Loc) (ls : Array Slot), lw_I D cy ld t ad a0 am s.heap.size F G R S H → lw_J D a0 F H → va_S (fun q : Nat => s.heap.size ≤ q) s.heap H locs → lv_has ls 4 [(3, .int v), (2, .ref am), (1, .ref a0), (0, .ref b)] → W p l e room_1 s m #[Value.ref b] below meth c H locs (cells + 7) (slots + 1106) (lw_Z below #[Value.ref b] s) (F0 m 1375 ls [])) : W p l e room_1 s m #[Value.ref b] below meth c H locs (cells) (slots) (lw_Z below #[Value.ref b] s) (F0 m 1316 ls []) := by
  obtain ⟨hx, hb, hr, hml, hown, hts, hX, hbl, hlocks, hgv⟩ := id C0
  have hown : s.vm.findClass RL = some m.cls := hown
  have hbA : ¬ (fun q : Nat => s.heap.size ≤ q) b := Nat.not_le.mpr hbl
  obtain ⟨ht0, hG, hge, hD, hM, ⟨hIF, hIG, hIR⟩, hsep, hwge⟩ := hI
  have hZ := lw_Z0 hZ0 hge
  have hAZ : ∀ q : Nat, q < s.heap.size → (fun q : Nat => s.heap.size ≤ q) q → (t q).1 ≠ 0 := fun q h1 h2 => absurd h2 (Nat.not_le.mpr h1)
  obtain ⟨x1, hx1⟩ : ∃ z, xs (v + 1 : Int32).toNatClampNeg = z := ⟨_, rfl⟩
  have hk1 : (1 : Int32).toInt = 1 := by decide
  refine lv_aload_n hx hb dL_law_1316 rfl (lv_at hl 2 rfl) ?_
  refine lv_aload_n hx hb dL_law_1317 rfl (lv_at hl 3 rfl) ?_
  refine lv_iload_n hx hb dL_law_1318 rfl (lv_at hl 0 rfl) ?_
  refine lv_iconst (v := 1) hx hb dL_law_1319 (by decide) ?_
  refine lv_iadd hx hb dL_law_1320 ?_
  refine va_sld hx hb hX hbl hbA hS (lw_in hv hk1 (by omega) (by omega) (by omega) hL) dL_law_1321 ?_
  refine fx_ti (v := x1) hx1 ?_
  refine tk_ViA (As := [.int x1]) (rest := []) (ci := 12) ⟨hx, hb, hml, hown, htl⟩ hK hG hZ hAZ hS (k_X12_back l D cy ld t a0 x1 ht0) trivial ⟨callB_of 1 htl (wl_inL mw_1721) rfl rfl rfl (htl _ mw_2) (htl _ mw_1718) hd_yX12_back ⟨(Nat.le_of_ble_eq_true rfl), (Nat.le_of_ble_eq_true rfl)⟩, htl _ mw_1719, htl _ mw_1720⟩ ht0 (by decide) tk_no rfl (fun q h => hge q h.1) rfl hl.1 rfl (Nat.le_of_ble_eq_true rfl) dL_law_1322 ⟨by show cells + 0 ≤ 600000; omega, by show slots + 0 ≤ 7302250; omega⟩ (fun r1 H locs hpo1 hG hS hz9 hq9 => ?_)
  have hM := hM.frame (H1 := H) (fun q hq => hq9 q (hM.lt hq) (fun h => hsep q h.1 hq))
  refine lv_pop hx hb dL_law_1325 rfl ?_
  refine lv_aload_n hx hb dL_law_1326 rfl (lv_at hl 1 rfl) ?_
  refine lv_aload_n hx hb dL_law_1327 rfl (lv_at hl 3 rfl) ?_
  refine lv_iload_n hx hb dL_law_1328 rfl (lv_at hl 0 rfl) ?_
  refine lv_iconst (v := 1) hx hb dL_law_1329 (by decide) ?_
  refine lv_iadd hx hb dL_law_1330 ?_
  refine va_sld hx hb hX hbl hbA hS (lw_in hv hk1 (by omega) (by omega) (by omega) hL) dL_law_1331 ?_
  refine fx_ti (v := x1) hx1 ?_
  refine mz_ViA (As := [.int x1]) (rest := []) ⟨hx, hb, hml, hown, htl⟩ hK hM hS (fun q h => hwge q h) (k_X13_back l D cy ld ad am hD _ _ _ _ x1 hIF hIG hIR) ⟨callB_of 1 htl (wl_inL mw_1725) rfl rfl rfl (htl _ mw_5) (htl _ mw_1722) hd_yX13_back ⟨(Nat.le_of_ble_eq_true rfl), (Nat.le_of_ble_eq_true rfl)⟩, htl _ mw_1723, htl _ mw_1724⟩ rfl hl.1 rfl (Nat.le_of_ble_eq_true rfl) dL_law_1332 ⟨by show cells + 0 + 0 ≤ 600000; omega, by show slots + 0 + 0 ≤ 7302250; omega⟩ (fun r2 H locs F G R S hpo hM hS hz9 hq9 => ?_)
  have hG := hG.frame (H1 := H) (fun q hq => hq9 q (hG.lt hq) (hsep q hq))
  obtain ⟨hIF, hIG, hIR, -⟩ := hpo
  refine lv_pop hx hb dL_law_1335 rfl ?_
  refine lv_goto (tgt := 1375) hx hb dL_law_1336 (by decide) ?_
  refine W.widen (k := cells + 7) (n := slots + 1106) (by exact Nat.le_add_right _ _) (by exact Nat.le_add_right _ _) ?_
  exact kk t F G R S H locs ls ⟨ht0, hG, hge, hD, hM, ⟨hIF, hIG, hIR⟩, hsep, hwge⟩ trivial hS hl
set_option maxHeartbeats 4000000 in
set_option maxRecDepth 100000 in
theorem law_39 {p : Program} {l : Launch} {e : Env} {s : State} {m : MethodId} {below : List Frame} {meth : Method} {c : Code} {b L : Nat} {xs : Nat → Int32} (C0 : lw_At p s m meth c b L xs) (htl : ∀ w ∈ wsA, w.before #[Value.ref b] s = true) {D : va_G} {cy : Nat → ClassId} {ld ad : Nat → Nat} (hK : kk_K D cy ld s) (hZ0 : tk_Z ld (fun _ => (0, 0, 0)) s) {t : tk_T} {a0 am : Nat} {F : Nat → Int32} {G : Nat → Int64} {R : Nat → Nat → Int32} {S : Nat → Nat → Int64} {H : Heap} {locs : List Loc} (hI : lw_I D cy ld t ad a0 am s.heap.size F G R S H) (hJ : lw_J D a0 F H) (hS : va_S (fun q : Nat => s.heap.size ≤ q) s.heap H locs) (hS0 : s.heap.size ≤ H.size) (hL : L ≤ 3072) {v : Int32} {i : Int} (hv : v.toInt = i) (hi : 0 ≤ i) (hiL : i + 6 ≤ (L : Int)) {cells slots : Nat} (hc : cells + 7 ≤ 600000) (hs : slots + 1106 ≤ 7302250) (ls : Array Slot) (hl : lv_has ls 4 [(3, .int v), (2, .ref am), (1, .ref a0), (0, .ref b)]) (kk : ∀ (t : tk_T) (F : Nat → Int32) (G : Nat → Int64) (R : Nat → Nat → Int32) (S : Nat → Nat → Int64) (H : Heap) (locs : List Loc) (ls : Array Slot), lw_I D cy ld t ad a0 am s.heap.size F G R S H → lw_J D a0 F H → va_S (fun q : Nat => s.heap.size ≤ q) s.heap H locs → lv_has ls 4 [(3, .int v), (2, .ref am), (1, .ref a0), (0, .ref b)] → W p l e room_1 s m #[Value.ref b] below meth c H locs (cells + 7) (slots + 1106) (lw_Z below #[Value.ref b] s) (F0 m 1375 ls [])) : W p l e room_1 s m #[Value.ref b] below meth c H locs (cells) (slots) (lw_Z below #[Value.ref b] s) (F0 m 1339 ls []) := by
  obtain ⟨hx, hb, hr, hml, hown, hts, hX, hbl, hlocks, hgv⟩ := id C0
  have hown : s.vm.findClass RL = some m.cls := hown
  have hbA : ¬ (fun q : Nat => s.heap.size ≤ q) b := Nat.not_le.mpr hbl
  obtain ⟨ht0, hG, hge, hD, hM, ⟨hIF, hIG, hIR⟩, hsep, hwge⟩ := hI
  have hZ := lw_Z0 hZ0 hge
  have hAZ : ∀ q : Nat, q < s.heap.size → (fun q : Nat => s.heap.size ≤ q) q → (t q).1 ≠ 0 := fun q h1 h2 => absurd h2 (Nat.not_le.mpr h1)
  obtain ⟨x1, hx1⟩ : ∃ z, xs (v + 1 : Int32).toNatClampNeg = z := ⟨_, rfl⟩
  have hk1 : (1 : Int32).toInt = 1 := by decide
  refine lv_aload_n hx hb dL_law_1339 rfl (lv_at hl 2 rfl) ?_
  refine lv_aload_n hx hb dL_law_1340 rfl (lv_at hl 3 rfl) ?_
  refine lv_iload_n hx hb dL_law_1341 rfl (lv_at hl 0 rfl) ?_
  refine lv_iconst (v := 1) hx hb dL_law_1342 (by decide) ?_
  refine lv_iadd hx hb dL_law_1343 ?_
  refine va_sld hx hb hX hbl hbA hS (lw_in hv hk1 (by omega) (by omega) (by omega) hL) dL_law_1344 ?_
  refine fx_ti (v := x1) hx1 ?_
  refine tk_ViA (As := [.int x1]) (rest := []) (ci := 12) ⟨hx, hb, hml, hown, htl⟩ hK hG hZ hAZ hS (k_X12_count l D cy ld t a0 x1 ht0) trivial ⟨callB_of 1 htl (wl_inL mw_1729) rfl rfl rfl (htl _ mw_2) (htl _ mw_1726) hd_yX12_count ⟨(Nat.le_of_ble_eq_true rfl), (Nat.le_of_ble_eq_true rfl)⟩, htl _ mw_1727, htl _ mw_1728⟩ ht0 (by decide) tk_no rfl (fun q h => hge q h.1) rfl hl.1 rfl (Nat.le_of_ble_eq_true rfl) dL_law_1345 ⟨by show cells + 0 ≤ 600000; omega, by show slots + 0 ≤ 7302250; omega⟩ (fun r1 H locs hpo1 hG hS hz9 hq9 => ?_)
  have hM := hM.frame (H1 := H) (fun q hq => hq9 q (hM.lt hq) (fun h => hsep q h.1 hq))
  refine lv_pop hx hb dL_law_1348 rfl ?_
  refine lv_aload_n hx hb dL_law_1349 rfl (lv_at hl 1 rfl) ?_
  refine lv_aload_n hx hb dL_law_1350 rfl (lv_at hl 3 rfl) ?_
  refine lv_iload_n hx hb dL_law_1351 rfl (lv_at hl 0 rfl) ?_
  refine lv_iconst (v := 1) hx hb dL_law_1352 (by decide) ?_
  refine lv_iadd hx hb dL_law_1353 ?_
  refine va_sld hx hb hX hbl hbA hS (lw_in hv hk1 (by omega) (by omega) (by omega) hL) dL_law_1354 ?_
  refine fx_ti (v := x1) hx1 ?_
  refine mz_ViA (As := [.int x1]) (rest := []) ⟨hx, hb, hml, hown, htl⟩ hK hM hS (fun q h => hwge q h) (k_X13_count l D cy ld ad am hD _ _ _ _ x1 hIF hIG hIR) ⟨callB_of 1 htl (wl_inL mw_1736) rfl rfl rfl (htl _ mw_5) (htl _ mw_1733) hd_yX13_count ⟨(Nat.le_of_ble_eq_true rfl), (Nat.le_of_ble_eq_true rfl)⟩, htl _ mw_1734, htl _ mw_1735⟩ rfl hl.1 rfl (Nat.le_of_ble_eq_true rfl) dL_law_1355 ⟨by show cells + 0 + 0 ≤ 600000; omega, by show slots + 0 + 0 ≤ 7302250; omega⟩ (fun r2 H locs F G R S hpo hM hS hz9 hq9 => ?_)
  have hG := hG.frame (H1 := H) (fun q hq => hq9 q (hG.lt hq) (hsep q hq))
  obtain ⟨hIF, hIG, hIR, -⟩ := hpo
  refine lv_pop hx hb dL_law_1358 rfl ?_
  refine lv_goto (tgt := 1375) hx hb dL_law_1359 (by decide) ?_
  refine W.widen (k := cells + 7) (n := slots + 1106) (by exact Nat.le_add_right _ _) (by exact Nat.le_add_right _ _) ?_
  exact kk t F G R S H locs ls ⟨ht0, hG, hge, hD, hM, ⟨hIF, hIG, hIR⟩, hsep, hwge⟩ trivial hS hl
set_option maxHeartbeats 4000000 in
set_option maxRecDepth 100000 in
theorem law_40 {p : Program} {l : Launch} {e : Env} {s : State} {m : MethodId} {below : List Frame} {meth : Method} {c : Code} {b L : Nat} {xs : Nat → Int32} (C0 : lw_At p s m meth c b L xs) (htl : ∀ w ∈ wsA, w.before #[Value.ref b] s = true) {D : va_G} {cy : Nat → ClassId} {ld ad : Nat → Nat} (hK : kk_K D cy ld s) (hZ0 : tk_Z ld (fun _ => (0, 0, 0)) s) {t : tk_T} {a0 am : Nat} {F : Nat → Int32} {G : Nat → Int64} {R : Nat → Nat → Int32} {S : Nat → Nat → Int64} {H : Heap} {locs : List Loc} (hI : lw_I D cy ld t ad a0 am s.heap.size F G R S H) (hJ : lw_J D a0 F H) (hS : va_S (fun q : Nat => s.heap.size ≤ q) s.heap H locs) (hS0 : s.heap.size ≤ H.size) (hL : L ≤ 3072) {v : Int32} {i : Int} (hv : v.toInt = i) (hi : 0 ≤ i) (hiL : i + 6 ≤ (L : Int)) {cells slots : Nat} (hc : cells + 7 ≤ 600000) (hs : slots + 1106 ≤ 7302250) (ls : Array Slot) (hl : lv_has ls 4 [(3, .int v), (2, .ref am), (1, .ref a0), (0, .ref b)]) (kk : ∀ (t : tk_T) (F : Nat → Int32) (G : Nat → Int64) (R : Nat → Nat → Int32) (S : Nat → Nat → Int64) (H : Heap) (locs : List Loc) (ls : Array Slot), lw_I D cy ld t ad a0 am s.heap.size F G R S H → lw_J D a0 F H → va_S (fun q : Nat => s.heap.size ≤ q) s.heap H locs → lv_has ls 4 [(3, .int v), (2, .ref am), (1, .ref a0), (0, .ref b)] → W p l e room_1 s m #[Value.ref b] below meth c H locs (cells + 7) (slots + 1106) (lw_Z below #[Value.ref b] s) (F0 m 1375 ls [])) : W p l e room_1 s m #[Value.ref b] below meth c H locs (cells) (slots) (lw_Z below #[Value.ref b] s) (F0 m 1362 ls []) := by
  obtain ⟨hx, hb, hr, hml, hown, hts, hX, hbl, hlocks, hgv⟩ := id C0
  have hown : s.vm.findClass RL = some m.cls := hown
  have hbA : ¬ (fun q : Nat => s.heap.size ≤ q) b := Nat.not_le.mpr hbl
  obtain ⟨ht0, hG, hge, hD, hM, ⟨hIF, hIG, hIR⟩, hsep, hwge⟩ := hI
  have hZ := lw_Z0 hZ0 hge
  have hAZ : ∀ q : Nat, q < s.heap.size → (fun q : Nat => s.heap.size ≤ q) q → (t q).1 ≠ 0 := fun q h1 h2 => absurd h2 (Nat.not_le.mpr h1)
  refine lv_aload_n hx hb dL_law_1362 rfl (lv_at hl 2 rfl) ?_
  refine tk_ViA (As := []) (rest := []) (ci := 12) ⟨hx, hb, hml, hown, htl⟩ hK hG hZ hAZ hS (k_X12_status l D cy ld t a0 ht0) trivial ⟨callB_of 0 htl (wl_inL mw_1742) rfl rfl rfl (htl _ mw_2) (htl _ mw_1739) hd_yX12_status ⟨(Nat.le_of_ble_eq_true rfl), (Nat.le_of_ble_eq_true rfl)⟩, htl _ mw_1740, htl _ mw_1741⟩ ht0 (by decide) tk_no rfl (fun q h => hge q h.1) rfl hl.1 rfl (Nat.le_of_ble_eq_true rfl) dL_law_1363 ⟨by show cells + 0 ≤ 600000; omega, by show slots + 0 ≤ 7302250; omega⟩ (fun r1 H locs hpo1 hG hS hz9 hq9 => ?_)
  have hM := hM.frame (H1 := H) (fun q hq => hq9 q (hM.lt hq) (fun h => hsep q h.1 hq))
  refine lv_pop hx hb dL_law_1366 rfl ?_
  refine lv_aload_n hx hb dL_law_1367 rfl (lv_at hl 1 rfl) ?_
  refine mz_ViA (As := []) (rest := []) ⟨hx, hb, hml, hown, htl⟩ hK hM hS (fun q h => hwge q h) (k_X13_status l D cy ld ad am hD _ _ _ _ hIF hIG hIR) ⟨callB_of 0 htl (wl_inL mw_1746) rfl rfl rfl (htl _ mw_5) (htl _ mw_1743) hd_yX13_status ⟨(Nat.le_of_ble_eq_true rfl), (Nat.le_of_ble_eq_true rfl)⟩, htl _ mw_1744, htl _ mw_1745⟩ rfl hl.1 rfl (Nat.le_of_ble_eq_true rfl) dL_law_1368 ⟨by show cells + 0 + 0 ≤ 600000; omega, by show slots + 0 + 0 ≤ 7302250; omega⟩ (fun r2 H locs F G R S hpo hM hS hz9 hq9 => ?_)
  have hG := hG.frame (H1 := H) (fun q hq => hq9 q (hG.lt hq) (hsep q hq))
  obtain ⟨hIF, hIG, hIR, -⟩ := hpo
  refine lv_pop hx hb dL_law_1371 rfl ?_
  refine lv_goto (tgt := 1375) hx hb dL_law_1372 (by decide) ?_
  refine W.widen (k := cells + 7) (n := slots + 1106) (by exact Nat.le_add_right _ _) (by exact Nat.le_add_right _ _) ?_
  exact kk t F G R S H locs ls ⟨ht0, hG, hge, hD, hM, ⟨hIF, hIG, hIR⟩, hsep, hwge⟩ trivial hS hl
