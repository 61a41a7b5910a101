set_option maxHeartbeats 8000000 in
set_option maxRecDepth 100000 in
theorem law_0 {p : Program} {l : Launch} {e : Env} {s : State} {m : MethodId} {below : List Frame} {meth : Method} {c : Code} {b L : Nat} {xs : Nat → Int32} (C0 : lw_At p s m meth c b L xs) (htl : ∀ w ∈ wsA, w.before #[Value.ref b] s = true) {D : va_G} {cy : Nat → ClassId} {ld ad : Nat → Nat} (hK : kk_K D cy ld s) (hZ0 : tk_Z ld (fun _ => (0, 0, 0)) s) {t : tk_T} {a0 am : Nat} {F : Nat → Int32} {G : Nat → Int64} {R : Nat → Nat → Int32} {S : Nat → Nat → Int64} {H : Heap} {locs : List Loc} (hI : lw_I D cy ld t ad a0 am s.heap.size F G R S H) (hJ : lw_J D ld t a0 F R H) (hS : va_S (fun q : Nat => s.heap.size ≤ q) s.heap H locs) (hS0 : s.heap.size ≤ H.size) (hL : L ≤ 3072) {v : Int32} {i : Int} (hv : v.toInt = i) (hi : 0 ≤ i) (hiL : i + 6 ≤ (L : Int)) {cells slots : Nat} (hc : cells + 7 ≤ 600000) (hs : slots + 1106 ≤ 7302250) (ls : Array Slot) (hl : lv_has ls 4 [(3, .int v), (2, .ref am), (1, .ref a0), (0, .ref b)]) (kk : ∀ (t : tk_T) (F : Nat → Int32) (G : Nat → Int64) (R : Nat → Nat → Int32) (S : Nat → Nat → Int64) (H : Heap) (locs : List Loc) (ls : Array Slot), lw_I D cy ld t ad a0 am s.heap.size F G R S H → lw_J D ld t a0 F R H → va_S (fun q : Nat => s.heap.size ≤ q) s.heap H locs → lv_has ls 4 [(3, .int v), (2, .ref am), (1, .ref a0), (0, .ref b)] → W p l e room_1 s m #[Value.ref b] below meth c H locs (cells + 7) (slots + 1106) (lw_Z below #[Value.ref b] s) (F0 m 1375 ls [])) : W p l e room_1 s m #[Value.ref b] below meth c H locs (cells) (slots) (lw_Z below #[Value.ref b] s) (F0 m 212 ls []) := by
  obtain ⟨hx, hb, hr, hml, hown, hts, hX, hbl, hlocks, hgv⟩ := id C0
  have hown : s.vm.findClass RL = some m.cls := hown
  have hbA : ¬ (fun q : Nat => s.heap.size ≤ q) b := Nat.not_le.mpr hbl
  obtain ⟨ht0, hG, hge, hD, hM, ⟨hIF, hIG, hIR⟩, hsep, hwge⟩ := hI
  have hZ := lw_Z0 hZ0 hge
  have hAZ : ∀ q : Nat, q < s.heap.size → (fun q : Nat => s.heap.size ≤ q) q → (t q).1 ≠ 0 := fun q h1 h2 => absurd h2 (Nat.not_le.mpr h1)
  obtain ⟨hT, ⟨n0, n1, n2, n3, fh, fs, fk, q1, q2, q3, hC, hR⟩, hKI, ⟨ft, htp, htr⟩, hj13, hj15⟩ := hJ
  obtain ⟨⟨e30, e31, e32, e33⟩, ⟨⟨b0, b1⟩, ⟨b2, b3⟩, ⟨b4, b5⟩, b6, b7⟩, -⟩ := id hR
  obtain ⟨y0, ey0⟩ : ∃ z : Int32, F 13 = z := ⟨_, rfl⟩
  have hy0 : 0 ≤ y0.toInt ∧ y0.toInt ≤ 400 := hIF.at ey0
  rw [ey0] at hj13 htr
  obtain ⟨y5, ey5⟩ : ∃ z : Int32, F 11 = z := ⟨_, rfl⟩
  rw [ey5] at hj15
  have hy5 := tk_rng y5
  obtain ⟨ht_ld20, ht_ld70, ht_ld80, ht_ld90, ht_ld100, ht_ld110, ht_ld120⟩ := id hT.1
  obtain ⟨ht_ld24, ht_ld76, ht_ld86, ht_ld96, ht_ld106, ht_ld116, ht_ld126⟩ := id hT.2.1
  obtain ⟨ht_ld25, ht_ld77, ht_ld87, ht_ld97, ht_ld107, ht_ld117, ht_ld127⟩ := id hT.2.2.1
  have ht_ld26 := hT.2.2.2.1
  have ht_ld49 := hT.2.2.2.2
  obtain ⟨x1, hx1⟩ : ∃ z, xs (v + 1 : Int32).toNatClampNeg = z := ⟨_, rfl⟩
  have hk1 : (1 : Int32).toInt = 1 := by decide
  obtain ⟨x2, hx2⟩ : ∃ z, xs (v + 2 : Int32).toNatClampNeg = z := ⟨_, rfl⟩
  have hk2 : (2 : Int32).toInt = 2 := by decide
  obtain ⟨x3, hx3⟩ : ∃ z, xs (v + 3 : Int32).toNatClampNeg = z := ⟨_, rfl⟩
  have hk3 : (3 : Int32).toInt = 3 := by decide
  have hsp : (x1.toInt ≤ (-1)) ∨ (1000 ≤ x1.toInt) ∨ (x2.toInt ≤ (-1)) ∨ (10 ≤ x2.toInt) ∨ (x3.toInt ≤ (-1)) ∨ (2 ≤ x3.toInt) ∨ (0 ≤ x1.toInt ∧ x1.toInt ≤ 999 ∧ 0 ≤ x2.toInt ∧ x2.toInt ≤ 9 ∧ 0 ≤ x3.toInt ∧ x3.toInt ≤ 1 ∧ 8 ≤ n0.toInt) ∨ (0 ≤ x1.toInt ∧ x1.toInt ≤ 999 ∧ 0 ≤ x2.toInt ∧ x2.toInt ≤ 9 ∧ 0 ≤ x3.toInt ∧ x3.toInt ≤ 1 ∧ n0.toInt ≤ 7) := by omega
  refine lv_aload_n hx hb dL_law_212 rfl (lv_at hl 2 rfl) ?_
  refine lv_aload_n hx hb dL_law_213 rfl (lv_at hl 3 rfl) ?_
  refine lv_iload_n hx hb dL_law_214 rfl (lv_at hl 0 rfl) ?_
  refine lv_iconst (v := 1) hx hb dL_law_215 (by decide) ?_
  refine lv_iadd hx hb dL_law_216 ?_
  refine va_sld hx hb hX hbl hbA hS (lw_in hv hk1 (by omega) (by omega) (by omega) hL) dL_law_217 ?_
  refine fx_ti (v := x1) hx1 ?_
  refine lv_aload_n hx hb dL_law_218 rfl (lv_at hl 3 rfl) ?_
  refine lv_iload_n hx hb dL_law_219 rfl (lv_at hl 0 rfl) ?_
  refine lv_iconst (v := 2) hx hb dL_law_220 (by decide) ?_
  refine lv_iadd hx hb dL_law_221 ?_
  refine va_sld hx hb hX hbl hbA hS (lw_in hv hk2 (by omega) (by omega) (by omega) hL) dL_law_222 ?_
  refine fx_ti (v := x2) hx2 ?_
  refine lv_aload_n hx hb dL_law_223 rfl (lv_at hl 3 rfl) ?_
  refine lv_iload_n hx hb dL_law_224 rfl (lv_at hl 0 rfl) ?_
  refine lv_iconst (v := 3) hx hb dL_law_225 (by decide) ?_
  refine lv_iadd hx hb dL_law_226 ?_
  refine va_sld hx hb hX hbl hbA hS (lw_in hv hk3 (by omega) (by omega) (by omega) hL) dL_law_227 ?_
  refine fx_ti (v := x3) hx3 ?_
  refine tk_ViA (As := [.int x1, .int x2, .int x3]) (rest := []) (ci := 12) ⟨hx, hb, hml, hown, htl⟩ hK hG hZ hAZ hS (k_X12_singer_x l D cy ld t a0 x1 x2 x3 y0 y5 n0 n1 n2 n3 fh fs fk q1 q2 q3 ht0 ht_ld20 ht_ld70 ht_ld80 ht_ld90 ht_ld100 ht_ld110 ht_ld120 (by omega) (by omega) (by omega) (by omega) (by omega) (by omega) (by omega) (by omega) (by omega) (by omega) (by omega) (by omega)) ⟨hj13, hj15, hC⟩ ⟨callB_of 3 htl (wl_inL mw_252) rfl rfl rfl (htl _ mw_2) (htl _ mw_249) hd_yX12_singer ⟨(Nat.le_of_ble_eq_true rfl), (Nat.le_of_ble_eq_true rfl)⟩, htl _ mw_250, htl _ mw_251⟩ ht0 (by decide) tk_no rfl (fun q h => hge q h.1) rfl hl.1 rfl (Nat.le_of_ble_eq_true rfl) dL_law_228 ⟨by show cells + 0 ≤ 600000; omega, by show slots + 0 ≤ 7302250; omega⟩ (fun r1 H locs hpo1 hG hS hz9 hq9 => ?_)
  obtain ⟨hp1_0, hp1_1, hp1_2, hp1_3, hp1_4, hp1_5, hp1_6, hp1_7, hp1_8, hj13, hj15, ⟨wn0, hC, hw0, hw1⟩⟩ := hpo1
  have hKI := jK.call hT hKI hq9 (by decide) (by decide) (by decide)
  have htp := htp.call hq9 (tk_w.no ht_ld26 (by decide))
  have hM := hM.frame (H1 := H) (fun q hq => hq9 q (hM.lt hq) (fun h => hsep q h.1 hq))
  refine lv_pop hx hb dL_law_231 rfl ?_
  refine lv_aload_n hx hb dL_law_232 rfl (lv_at hl 1 rfl) ?_
  refine lv_aload_n hx hb dL_law_233 rfl (lv_at hl 3 rfl) ?_
  refine lv_iload_n hx hb dL_law_234 rfl (lv_at hl 0 rfl) ?_
  refine lv_iconst (v := 1) hx hb dL_law_235 (by decide) ?_
  refine lv_iadd hx hb dL_law_236 ?_
  refine va_sld hx hb hX hbl hbA hS (lw_in hv hk1 (by omega) (by omega) (by omega) hL) dL_law_237 ?_
  refine fx_ti (v := x1) hx1 ?_
  refine lv_aload_n hx hb dL_law_238 rfl (lv_at hl 3 rfl) ?_
  refine lv_iload_n hx hb dL_law_239 rfl (lv_at hl 0 rfl) ?_
  refine lv_iconst (v := 2) hx hb dL_law_240 (by decide) ?_
  refine lv_iadd hx hb dL_law_241 ?_
  refine va_sld hx hb hX hbl hbA hS (lw_in hv hk2 (by omega) (by omega) (by omega) hL) dL_law_242 ?_
  refine fx_ti (v := x2) hx2 ?_
  refine lv_aload_n hx hb dL_law_243 rfl (lv_at hl 3 rfl) ?_
  refine lv_iload_n hx hb dL_law_244 rfl (lv_at hl 0 rfl) ?_
  refine lv_iconst (v := 3) hx hb dL_law_245 (by decide) ?_
  refine lv_iadd hx hb dL_law_246 ?_
  refine va_sld hx hb hX hbl hbA hS (lw_in hv hk3 (by omega) (by omega) (by omega) hL) dL_law_247 ?_
  refine fx_ti (v := x3) hx3 ?_
  refine mz_ViA (As := [.int x1, .int x2, .int x3]) (rest := []) ⟨hx, hb, hml, hown, htl⟩ hK hM hS (fun q h => hwge q h) (k_X13_singer_x l D cy ld ad am hD _ _ _ _ x1 x2 x3 _ hIF hIG hIR e30) ⟨callB_of 3 htl (wl_inL mw_285) rfl rfl rfl (htl _ mw_5) (htl _ mw_282) hd_yX13_singer ⟨(Nat.le_of_ble_eq_true rfl), (Nat.le_of_ble_eq_true rfl)⟩, htl _ mw_283, htl _ mw_284⟩ rfl hl.1 rfl (Nat.le_of_ble_eq_true rfl) dL_law_248 ⟨by show cells + 0 + 0 ≤ 600000; omega, by show slots + 0 + 0 ≤ 7302250; omega⟩ (fun r2 H locs F G R S hpo hM hS hz9 hq9 => ?_)
  have hall := fun (q : Nat) (hq : (t q).1 ≠ 0) => hq9 q (hG.lt hq) (hsep q hq)
  have hG := hG.frame (H1 := H) hall
  have hC := jC.all hT.1 hC hall
  have hKI := jK.all hT hKI hall
  have htp := htp.kept (hall _ (by rw [ht_ld26]; exact Nat.succ_ne_zero _))
  have hj13 := hj13.kept (hall _ (by rw [ht0]; exact Nat.succ_ne_zero _))
  have hj15 := hj15.kept (hall _ (by rw [ht0]; exact Nat.succ_ne_zero _))
  obtain ⟨hIF, hIG, hIR, hfr9, hrr9, hgr9, hp2_0, hp2_1, hp2_2, hp2_3, hp2_4, hp2_5, hp2_6, hp2_7, hp2_8, hp2_9, hp2_10⟩ := hpo
  have hv9 : r1.toInt = r2.toInt := by
    rcases hsp with h | h | h | h | h | h | h | h
    · exact jq1 (hp1_0 (h)) (hp2_0 (h))
    · exact jq1 (hp1_1 (h)) (hp2_1 (h))
    · exact jq1 (hp1_2 (h)) (hp2_2 (h))
    · exact jq1 (hp1_3 (h)) (hp2_3 (h))
    · exact jq1 (hp1_4 (h)) (hp2_4 (h))
    · exact jq1 (hp1_5 (h)) (hp2_5 (h))
    · exact jq1 (hp1_6 (h.1) (h.2.1) (h.2.2.1) (h.2.2.2.1) (h.2.2.2.2.1) (h.2.2.2.2.2.1) (h.2.2.2.2.2.2)) (hp2_6 (h.1) (h.2.1) (h.2.2.1) (h.2.2.2.1) (h.2.2.2.2.1) (h.2.2.2.2.2.1) (h.2.2.2.2.2.2))
    · exact jq2 (hp1_7 (h.1) (h.2.1) (h.2.2.1) (h.2.2.2.1) (h.2.2.2.2.1) (h.2.2.2.2.2.1) (h.2.2.2.2.2.2)) (hp2_7 (h.1) (h.2.1) (h.2.2.1) (h.2.2.2.1) (h.2.2.2.2.1) (h.2.2.2.2.2.1) (h.2.2.2.2.2.2))
  have hR := jR.singer (x := wn0) hR hv9 (fun h => ⟨by have h1 := hp1_8 h; omega, by have h1 := hw0 h; omega⟩) (fun h => by have h1 := hw1 h; omega) rfl hp2_10
  have hKI : jK D ld (R 4) (R 5) H := by rw [hrr9 4 (by decide), hrr9 5 (by decide)]; exact hKI
  have eF13 := (hfr9 13 (by decide)).trans ey0
  have htr : ∀ j : Nat, (j : Int) < y0.toInt → ft j = R 12 j := by rw [hrr9 12 (by decide)]; exact htr
  have eF11 := (hfr9 11 (by decide)).trans ey5
  have hJ9 : lw_J D ld t a0 F R H := ⟨hT, ⟨_, _, _, _, _, _, _, _, _, _, hC, hR⟩, hKI, ⟨_, htp, by rw [eF13]; exact htr⟩, by rw [eF13]; exact hj13, by rw [eF11]; exact hj15⟩
  refine lv_pop hx hb dL_law_251 rfl ?_
  refine lv_goto (tgt := 1375) hx hb dL_law_252 (by decide) ?_
  refine W.widen (k := cells + 7) (n := slots + 1106) (by exact Nat.le_add_right _ _) (by exact Nat.le_add_right _ _) ?_
  exact kk t F G R S H locs ls ⟨ht0, hG, hge, hD, hM, ⟨hIF, hIG, hIR⟩, hsep, hwge⟩ hJ9 hS hl
set_option maxHeartbeats 8000000 in
set_option maxRecDepth 100000 in
theorem law_1 {p : Program} {l : Launch} {e : Env} {s : State} {m : MethodId} {below : List Frame} {meth : Method} {c : Code} {b L : Nat} {xs : Nat → Int32} (C0 : lw_At p s m meth c b L xs) (htl : ∀ w ∈ wsA, w.before #[Value.ref b] s = true) {D : va_G} {cy : Nat → ClassId} {ld ad : Nat → Nat} (hK : kk_K D cy ld s) (hZ0 : tk_Z ld (fun _ => (0, 0, 0)) s) {t : tk_T} {a0 am : Nat} {F : Nat → Int32} {G : Nat → Int64} {R : Nat → Nat → Int32} {S : Nat → Nat → Int64} {H : Heap} {locs : List Loc} (hI : lw_I D cy ld t ad a0 am s.heap.size F G R S H) (hJ : lw_J D ld t a0 F R H) (hS : va_S (fun q : Nat => s.heap.size ≤ q) s.heap H locs) (hS0 : s.heap.size ≤ H.size) (hL : L ≤ 3072) {v : Int32} {i : Int} (hv : v.toInt = i) (hi : 0 ≤ i) (hiL : i + 6 ≤ (L : Int)) {cells slots : Nat} (hc : cells + 7 ≤ 600000) (hs : slots + 1106 ≤ 7302250) (ls : Array Slot) (hl : lv_has ls 4 [(3, .int v), (2, .ref am), (1, .ref a0), (0, .ref b)]) (kk : ∀ (t : tk_T) (F : Nat → Int32) (G : Nat → Int64) (R : Nat → Nat → Int32) (S : Nat → Nat → Int64) (H : Heap) (locs : List Loc) (ls : Array Slot), lw_I D cy ld t ad a0 am s.heap.size F G R S H → lw_J D ld t a0 F R H → va_S (fun q : Nat => s.heap.size ≤ q) s.heap H locs → lv_has ls 4 [(3, .int v), (2, .ref am), (1, .ref a0), (0, .ref b)] → W p l e room_1 s m #[Value.ref b] below meth c H locs (cells + 7) (slots + 1106) (lw_Z below #[Value.ref b] s) (F0 m 1375 ls [])) : W p l e room_1 s m #[Value.ref b] below meth c H locs (cells) (slots) (lw_Z below #[Value.ref b] s) (F0 m 255 ls []) := by
  obtain ⟨hx, hb, hr, hml, hown, hts, hX, hbl, hlocks, hgv⟩ := id C0
  have hown : s.vm.findClass RL = some m.cls := hown
  have hbA : ¬ (fun q : Nat => s.heap.size ≤ q) b := Nat.not_le.mpr hbl
  obtain ⟨ht0, hG, hge, hD, hM, ⟨hIF, hIG, hIR⟩, hsep, hwge⟩ := hI
  have hZ := lw_Z0 hZ0 hge
  have hAZ : ∀ q : Nat, q < s.heap.size → (fun q : Nat => s.heap.size ≤ q) q → (t q).1 ≠ 0 := fun q h1 h2 => absurd h2 (Nat.not_le.mpr h1)
  obtain ⟨hT, ⟨n0, n1, n2, n3, fh, fs, fk, q1, q2, q3, hC, hR⟩, hKI, ⟨ft, htp, htr⟩, hj13, hj15⟩ := hJ
  obtain ⟨⟨e30, e31, e32, e33⟩, ⟨⟨b0, b1⟩, ⟨b2, b3⟩, ⟨b4, b5⟩, b6, b7⟩, -⟩ := id hR
  obtain ⟨y0, ey0⟩ : ∃ z : Int32, F 13 = z := ⟨_, rfl⟩
  have hy0 : 0 ≤ y0.toInt ∧ y0.toInt ≤ 400 := hIF.at ey0
  rw [ey0] at hj13 htr
  obtain ⟨y5, ey5⟩ : ∃ z : Int32, F 11 = z := ⟨_, rfl⟩
  rw [ey5] at hj15
  have hy5 := tk_rng y5
  obtain ⟨ht_ld20, ht_ld70, ht_ld80, ht_ld90, ht_ld100, ht_ld110, ht_ld120⟩ := id hT.1
  obtain ⟨ht_ld24, ht_ld76, ht_ld86, ht_ld96, ht_ld106, ht_ld116, ht_ld126⟩ := id hT.2.1
  obtain ⟨ht_ld25, ht_ld77, ht_ld87, ht_ld97, ht_ld107, ht_ld117, ht_ld127⟩ := id hT.2.2.1
  have ht_ld26 := hT.2.2.2.1
  have ht_ld49 := hT.2.2.2.2
  obtain ⟨x1, hx1⟩ : ∃ z, xs (v + 1 : Int32).toNatClampNeg = z := ⟨_, rfl⟩
  have hk1 : (1 : Int32).toInt = 1 := by decide
  obtain ⟨x2, hx2⟩ : ∃ z, xs (v + 2 : Int32).toNatClampNeg = z := ⟨_, rfl⟩
  have hk2 : (2 : Int32).toInt = 2 := by decide
  refine lv_aload_n hx hb dL_law_255 rfl (lv_at hl 2 rfl) ?_
  refine lv_aload_n hx hb dL_law_256 rfl (lv_at hl 3 rfl) ?_
  refine lv_iload_n hx hb dL_law_257 rfl (lv_at hl 0 rfl) ?_
  refine lv_iconst (v := 1) hx hb dL_law_258 (by decide) ?_
  refine lv_iadd hx hb dL_law_259 ?_
  refine va_sld hx hb hX hbl hbA hS (lw_in hv hk1 (by omega) (by omega) (by omega) hL) dL_law_260 ?_
  refine fx_ti (v := x1) hx1 ?_
  refine lv_aload_n hx hb dL_law_261 rfl (lv_at hl 3 rfl) ?_
  refine lv_iload_n hx hb dL_law_262 rfl (lv_at hl 0 rfl) ?_
  refine lv_iconst (v := 2) hx hb dL_law_263 (by decide) ?_
  refine lv_iadd hx hb dL_law_264 ?_
  refine va_sld hx hb hX hbl hbA hS (lw_in hv hk2 (by omega) (by omega) (by omega) hL) dL_law_265 ?_
  refine fx_ti (v := x2) hx2 ?_
  refine tk_ViA (As := [.int x1, .int x2]) (rest := []) (ci := 12) ⟨hx, hb, hml, hown, htl⟩ hK hG hZ hAZ hS (k_X12_of l D cy ld t a0 x1 x2 ht0) trivial ⟨callB_of 2 htl (wl_inL mw_301) rfl rfl rfl (htl _ mw_2) (htl _ mw_298) hd_yX12_of ⟨(Nat.le_of_ble_eq_true rfl), (Nat.le_of_ble_eq_true rfl)⟩, htl _ mw_299, htl _ mw_300⟩ ht0 (by decide) tk_no rfl (fun q h => hge q h.1) rfl hl.1 rfl (Nat.le_of_ble_eq_true rfl) dL_law_266 ⟨by show cells + 0 ≤ 600000; omega, by show slots + 0 ≤ 7302250; omega⟩ (fun r1 H locs hpo1 hG hS hz9 hq9 => ?_)
  have hC := jC.call hT.1 hC hq9 (by decide)
  have hKI := jK.call hT hKI hq9 (by decide) (by decide) (by decide)
  have htp := htp.call hq9 (tk_w.no ht_ld26 (by decide))
  have hj13 := hj13.call hq9 (tk_w.no ht0 (by decide))
  have hj15 := hj15.call hq9 (tk_w.no ht0 (by decide))
  have hM := hM.frame (H1 := H) (fun q hq => hq9 q (hM.lt hq) (fun h => hsep q h.1 hq))
  refine lv_pop hx hb dL_law_269 rfl ?_
  refine lv_aload_n hx hb dL_law_270 rfl (lv_at hl 1 rfl) ?_
  refine lv_aload_n hx hb dL_law_271 rfl (lv_at hl 3 rfl) ?_
  refine lv_iload_n hx hb dL_law_272 rfl (lv_at hl 0 rfl) ?_
  refine lv_iconst (v := 1) hx hb dL_law_273 (by decide) ?_
  refine lv_iadd hx hb dL_law_274 ?_
  refine va_sld hx hb hX hbl hbA hS (lw_in hv hk1 (by omega) (by omega) (by omega) hL) dL_law_275 ?_
  refine fx_ti (v := x1) hx1 ?_
  refine lv_aload_n hx hb dL_law_276 rfl (lv_at hl 3 rfl) ?_
  refine lv_iload_n hx hb dL_law_277 rfl (lv_at hl 0 rfl) ?_
  refine lv_iconst (v := 2) hx hb dL_law_278 (by decide) ?_
  refine lv_iadd hx hb dL_law_279 ?_
  refine va_sld hx hb hX hbl hbA hS (lw_in hv hk2 (by omega) (by omega) (by omega) hL) dL_law_280 ?_
  refine fx_ti (v := x2) hx2 ?_
  refine mz_ViA (As := [.int x1, .int x2]) (rest := []) ⟨hx, hb, hml, hown, htl⟩ hK hM hS (fun q h => hwge q h) (k_X13_of l D cy ld ad am hD _ _ _ _ x1 x2 hIF hIG hIR) ⟨callB_of 2 htl (wl_inL mw_315) rfl rfl rfl (htl _ mw_5) (htl _ mw_312) hd_yX13_of ⟨(Nat.le_of_ble_eq_true rfl), (Nat.le_of_ble_eq_true rfl)⟩, htl _ mw_313, htl _ mw_314⟩ rfl hl.1 rfl (Nat.le_of_ble_eq_true rfl) dL_law_281 ⟨by show cells + 0 + 0 ≤ 600000; omega, by show slots + 0 + 0 ≤ 7302250; omega⟩ (fun r2 H locs F G R S hpo hM hS hz9 hq9 => ?_)
  have hall := fun (q : Nat) (hq : (t q).1 ≠ 0) => hq9 q (hG.lt hq) (hsep q hq)
  have hG := hG.frame (H1 := H) hall
  have hC := jC.all hT.1 hC hall
  have hKI := jK.all hT hKI hall
  have htp := htp.kept (hall _ (by rw [ht_ld26]; exact Nat.succ_ne_zero _))
  have hj13 := hj13.kept (hall _ (by rw [ht0]; exact Nat.succ_ne_zero _))
  have hj15 := hj15.kept (hall _ (by rw [ht0]; exact Nat.succ_ne_zero _))
  obtain ⟨hIF, hIG, hIR, hfr9, hrr9, hgr9⟩ := hpo
  have hR := hR.rel (rK3.refl (hrr9 3 (by decide)))
  have hKI : jK D ld (R 4) (R 5) H := by rw [hrr9 4 (by decide), hrr9 5 (by decide)]; exact hKI
  have eF13 := (hfr9 13 (by decide)).trans ey0
  have htr : ∀ j : Nat, (j : Int) < y0.toInt → ft j = R 12 j := by rw [hrr9 12 (by decide)]; exact htr
  have eF11 := (hfr9 11 (by decide)).trans ey5
  have hJ9 : lw_J D ld t a0 F R H := ⟨hT, ⟨_, _, _, _, _, _, _, _, _, _, hC, hR⟩, hKI, ⟨_, htp, by rw [eF13]; exact htr⟩, by rw [eF13]; exact hj13, by rw [eF11]; exact hj15⟩
  refine lv_pop hx hb dL_law_284 rfl ?_
  refine lv_goto (tgt := 1375) hx hb dL_law_285 (by decide) ?_
  refine W.widen (k := cells + 7) (n := slots + 1106) (by exact Nat.le_add_right _ _) (by exact Nat.le_add_right _ _) ?_
  exact kk t F G R S H locs ls ⟨ht0, hG, hge, hD, hM, ⟨hIF, hIG, hIR⟩, hsep, hwge⟩ hJ9 hS hl
set_option maxHeartbeats 8000000 in
set_option maxRecDepth 100000 in
theorem law_2 {p : Program} {l : Launch} {e : Env} {s : State} {m : MethodId} {below : List Frame} {meth : Method} {c : Code} {b L : Nat} {xs : Nat → Int32} (C0 : lw_At p s m meth c b L xs) (htl : ∀ w ∈ wsA, w.before #[Value.ref b] s = true) {D : va_G} {cy : Nat → ClassId} {ld ad : Nat → Nat} (hK : kk_K D cy ld s) (hZ0 : tk_Z ld (fun _ => (0, 0, 0)) s) {t : tk_T} {a0 am : Nat} {F : Nat → Int32} {G : Nat → Int64} {R : Nat → Nat → Int32} {S : Nat → Nat → Int64} {H : Heap} {locs : List Loc} (hI : lw_I D cy ld t ad a0 am s.heap.size F G R S H) (hJ : lw_J D ld t a0 F R H) (hS : va_S (fun q : Nat => s.heap.size ≤ q) s.heap H locs) (hS0 : s.heap.size ≤ H.size) (hL : L ≤ 3072) {v : Int32} {i : Int} (hv : v.toInt = i) (hi : 0 ≤ i) (hiL : i + 6 ≤ (L : Int)) {cells slots : Nat} (hc : cells + 7 ≤ 600000) (hs : slots + 1106 ≤ 7302250) (ls : Array Slot) (hl : lv_has ls 4 [(3, .int v), (2, .ref am), (1, .ref a0), (0, .ref b)]) (kk : ∀ (t : tk_T) (F : Nat → Int32) (G : Nat → Int64) (R : Nat → Nat → Int32) (S : Nat → Nat → Int64) (H : Heap) (locs : List Loc) (ls : Array Slot), lw_I D cy ld t ad a0 am s.heap.size F G R S H → lw_J D ld t a0 F R H → va_S (fun q : Nat => s.heap.size ≤ q) s.heap H locs → lv_has ls 4 [(3, .int v), (2, .ref am), (1, .ref a0), (0, .ref b)] → W p l e room_1 s m #[Value.ref b] below meth c H locs (cells + 7) (slots + 1106) (lw_Z below #[Value.ref b] s) (F0 m 1375 ls [])) : W p l e room_1 s m #[Value.ref b] below meth c H locs (cells) (slots) (lw_Z below #[Value.ref b] s) (F0 m 288 ls []) := by
  obtain ⟨hx, hb, hr, hml, hown, hts, hX, hbl, hlocks, hgv⟩ := id C0
  have hown : s.vm.findClass RL = some m.cls := hown
  have hbA : ¬ (fun q : Nat => s.heap.size ≤ q) b := Nat.not_le.mpr hbl
  obtain ⟨ht0, hG, hge, hD, hM, ⟨hIF, hIG, hIR⟩, hsep, hwge⟩ := hI
  have hZ := lw_Z0 hZ0 hge
  have hAZ : ∀ q : Nat, q < s.heap.size → (fun q : Nat => s.heap.size ≤ q) q → (t q).1 ≠ 0 := fun q h1 h2 => absurd h2 (Nat.not_le.mpr h1)
  obtain ⟨hT, ⟨n0, n1, n2, n3, fh, fs, fk, q1, q2, q3, hC, hR⟩, hKI, ⟨ft, htp, htr⟩, hj13, hj15⟩ := hJ
  obtain ⟨⟨e30, e31, e32, e33⟩, ⟨⟨b0, b1⟩, ⟨b2, b3⟩, ⟨b4, b5⟩, b6, b7⟩, -⟩ := id hR
  obtain ⟨y0, ey0⟩ : ∃ z : Int32, F 13 = z := ⟨_, rfl⟩
  have hy0 : 0 ≤ y0.toInt ∧ y0.toInt ≤ 400 := hIF.at ey0
  rw [ey0] at hj13 htr
  obtain ⟨y5, ey5⟩ : ∃ z : Int32, F 11 = z := ⟨_, rfl⟩
  rw [ey5] at hj15
  have hy5 := tk_rng y5
  obtain ⟨ht_ld20, ht_ld70, ht_ld80, ht_ld90, ht_ld100, ht_ld110, ht_ld120⟩ := id hT.1
  obtain ⟨ht_ld24, ht_ld76, ht_ld86, ht_ld96, ht_ld106, ht_ld116, ht_ld126⟩ := id hT.2.1
  obtain ⟨ht_ld25, ht_ld77, ht_ld87, ht_ld97, ht_ld107, ht_ld117, ht_ld127⟩ := id hT.2.2.1
  have ht_ld26 := hT.2.2.2.1
  have ht_ld49 := hT.2.2.2.2
  obtain ⟨x1, hx1⟩ : ∃ z, xs (v + 1 : Int32).toNatClampNeg = z := ⟨_, rfl⟩
  have hk1 : (1 : Int32).toInt = 1 := by decide
  obtain ⟨x2, hx2⟩ : ∃ z, xs (v + 2 : Int32).toNatClampNeg = z := ⟨_, rfl⟩
  have hk2 : (2 : Int32).toInt = 2 := by decide
  have hsp : (x1.toInt ≤ 0) ∨ (100 ≤ x1.toInt) ∨ (x2.toInt ≤ (-1)) ∨ (5 ≤ x2.toInt) ∨ (1 ≤ x1.toInt ∧ x1.toInt ≤ 99 ∧ 0 ≤ x2.toInt ∧ x2.toInt ≤ 4 ∧ 10 ≤ n1.toInt) ∨ (1 ≤ x1.toInt ∧ x1.toInt ≤ 99 ∧ 0 ≤ x2.toInt ∧ x2.toInt ≤ 4 ∧ n1.toInt ≤ 9) := by omega
  refine lv_aload_n hx hb dL_law_288 rfl (lv_at hl 2 rfl) ?_
  refine lv_aload_n hx hb dL_law_289 rfl (lv_at hl 3 rfl) ?_
  refine lv_iload_n hx hb dL_law_290 rfl (lv_at hl 0 rfl) ?_
  refine lv_iconst (v := 1) hx hb dL_law_291 (by decide) ?_
  refine lv_iadd hx hb dL_law_292 ?_
  refine va_sld hx hb hX hbl hbA hS (lw_in hv hk1 (by omega) (by omega) (by omega) hL) dL_law_293 ?_
  refine fx_ti (v := x1) hx1 ?_
  refine lv_aload_n hx hb dL_law_294 rfl (lv_at hl 3 rfl) ?_
  refine lv_iload_n hx hb dL_law_295 rfl (lv_at hl 0 rfl) ?_
  refine lv_iconst (v := 2) hx hb dL_law_296 (by decide) ?_
  refine lv_iadd hx hb dL_law_297 ?_
  refine va_sld hx hb hX hbl hbA hS (lw_in hv hk2 (by omega) (by omega) (by omega) hL) dL_law_298 ?_
  refine fx_ti (v := x2) hx2 ?_
  refine tk_ViA (As := [.int x1, .int x2]) (rest := []) (ci := 12) ⟨hx, hb, hml, hown, htl⟩ hK hG hZ hAZ hS (k_X12_verse_x l D cy ld t a0 x1 x2 y0 y5 n0 n1 n2 n3 fh fs fk q1 q2 q3 ht0 ht_ld20 ht_ld70 ht_ld80 ht_ld90 ht_ld100 ht_ld110 ht_ld120 (by omega) (by omega) (by omega) (by omega) (by omega) (by omega) (by omega) (by omega) (by omega) (by omega) (by omega) (by omega)) ⟨hj13, hj15, hC⟩ ⟨callB_of 2 htl (wl_inL mw_328) rfl rfl rfl (htl _ mw_2) (htl _ mw_325) hd_yX12_verse ⟨(Nat.le_of_ble_eq_true rfl), (Nat.le_of_ble_eq_true rfl)⟩, htl _ mw_326, htl _ mw_327⟩ ht0 (by decide) tk_no rfl (fun q h => hge q h.1) rfl hl.1 rfl (Nat.le_of_ble_eq_true rfl) dL_law_299 ⟨by show cells + 0 ≤ 600000; omega, by show slots + 0 ≤ 7302250; omega⟩ (fun r1 H locs hpo1 hG hS hz9 hq9 => ?_)
  obtain ⟨hp1_0, hp1_1, hp1_2, hp1_3, hp1_4, hp1_5, hp1_6, hj13, hj15, ⟨wn1, hC, hw0, hw1⟩⟩ := hpo1
  have hKI := jK.call hT hKI hq9 (by decide) (by decide) (by decide)
  have htp := htp.call hq9 (tk_w.no ht_ld26 (by decide))
  have hM := hM.frame (H1 := H) (fun q hq => hq9 q (hM.lt hq) (fun h => hsep q h.1 hq))
  refine lv_aload_n hx hb dL_law_302 rfl (lv_at hl 1 rfl) ?_
  refine lv_aload_n hx hb dL_law_303 rfl (lv_at hl 3 rfl) ?_
  refine lv_iload_n hx hb dL_law_304 rfl (lv_at hl 0 rfl) ?_
  refine lv_iconst (v := 1) hx hb dL_law_305 (by decide) ?_
  refine lv_iadd hx hb dL_law_306 ?_
  refine va_sld hx hb hX hbl hbA hS (lw_in hv hk1 (by omega) (by omega) (by omega) hL) dL_law_307 ?_
  refine fx_ti (v := x1) hx1 ?_
  refine lv_aload_n hx hb dL_law_308 rfl (lv_at hl 3 rfl) ?_
  refine lv_iload_n hx hb dL_law_309 rfl (lv_at hl 0 rfl) ?_
  refine lv_iconst (v := 2) hx hb dL_law_310 (by decide) ?_
  refine lv_iadd hx hb dL_law_311 ?_
  refine va_sld hx hb hX hbl hbA hS (lw_in hv hk2 (by omega) (by omega) (by omega) hL) dL_law_312 ?_
  refine fx_ti (v := x2) hx2 ?_
  refine mz_ViA (As := [.int x1, .int x2]) (rest := [.int r1]) ⟨hx, hb, hml, hown, htl⟩ hK hM hS (fun q h => hwge q h) (k_X13_verse_x l D cy ld ad am hD _ _ _ _ x1 x2 _ hIF hIG hIR e31) ⟨callB_of 2 htl (wl_inL mw_337) rfl rfl rfl (htl _ mw_5) (htl _ mw_334) hd_yX13_verse ⟨(Nat.le_of_ble_eq_true rfl), (Nat.le_of_ble_eq_true rfl)⟩, htl _ mw_335, htl _ mw_336⟩ rfl hl.1 rfl (Nat.le_of_ble_eq_true rfl) dL_law_313 ⟨by show cells + 0 + 0 ≤ 600000; omega, by show slots + 0 + 0 ≤ 7302250; omega⟩ (fun r2 H locs F G R S hpo hM hS hz9 hq9 => ?_)
  have hall := fun (q : Nat) (hq : (t q).1 ≠ 0) => hq9 q (hG.lt hq) (hsep q hq)
  have hG := hG.frame (H1 := H) hall
  have hC := jC.all hT.1 hC hall
  have hKI := jK.all hT hKI hall
  have htp := htp.kept (hall _ (by rw [ht_ld26]; exact Nat.succ_ne_zero _))
  have hj13 := hj13.kept (hall _ (by rw [ht0]; exact Nat.succ_ne_zero _))
  have hj15 := hj15.kept (hall _ (by rw [ht0]; exact Nat.succ_ne_zero _))
  obtain ⟨hIF, hIG, hIR, hfr9, hrr9, hgr9, hp2_0, hp2_1, hp2_2, hp2_3, hp2_4, hp2_5, hp2_6, hp2_7, hp2_8⟩ := hpo
  have hv9 : r1.toInt = r2.toInt := by
    rcases hsp with h | h | h | h | h | h
    · exact jq1 (hp1_0 (h)) (hp2_0 (h))
    · exact jq1 (hp1_1 (h)) (hp2_1 (h))
    · exact jq1 (hp1_2 (h)) (hp2_2 (h))
    · exact jq1 (hp1_3 (h)) (hp2_3 (h))
    · exact jq1 (hp1_4 (h.1) (h.2.1) (h.2.2.1) (h.2.2.2.1) (h.2.2.2.2)) (hp2_4 (h.1) (h.2.1) (h.2.2.1) (h.2.2.2.1) (h.2.2.2.2))
    · exact jq2 (hp1_5 (h.1) (h.2.1) (h.2.2.1) (h.2.2.2.1) (h.2.2.2.2)) (hp2_5 (h.1) (h.2.1) (h.2.2.1) (h.2.2.2.1) (h.2.2.2.2))
  have hR := jR.verse (x := wn1) hR hv9 (fun h => ⟨by have h1 := hp1_6 h; omega, by have h1 := hw0 h; omega⟩) (fun h => by have h1 := hw1 h; omega) rfl hp2_8
  have hKI : jK D ld (R 4) (R 5) H := by rw [hrr9 4 (by decide), hrr9 5 (by decide)]; exact hKI
  have eF13 := (hfr9 13 (by decide)).trans ey0
  have htr : ∀ j : Nat, (j : Int) < y0.toInt → ft j = R 12 j := by rw [hrr9 12 (by decide)]; exact htr
  have eF11 := (hfr9 11 (by decide)).trans ey5
  have hJ9 : lw_J D ld t a0 F R H := ⟨hT, ⟨_, _, _, _, _, _, _, _, _, _, hC, hR⟩, hKI, ⟨_, htp, by rw [eF13]; exact htr⟩, by rw [eF13]; exact hj13, by rw [eF11]; exact hj15⟩
  refine lv_icmp_eq (tgt := 1375) hx hb dL_law_316 (by decide) (fun _ => ?_) (fun c9 => (c9 ((fi_eq rfl rfl).mpr hv9)).elim)
  refine W.widen (k := cells + 7) (n := slots + 1106) (by exact Nat.le_add_right _ _) (by exact Nat.le_add_right _ _) ?_
  exact kk t F G R S H locs ls ⟨ht0, hG, hge, hD, hM, ⟨hIF, hIG, hIR⟩, hsep, hwge⟩ hJ9 hS hl
set_option maxHeartbeats 8000000 in
set_option maxRecDepth 100000 in
theorem law_3 {p : Program} {l : Launch} {e : Env} {s : State} {m : MethodId} {below : List Frame} {meth : Method} {c : Code} {b L : Nat} {xs : Nat → Int32} (C0 : lw_At p s m meth c b L xs) (htl : ∀ w ∈ wsA, w.before #[Value.ref b] s = true) {D : va_G} {cy : Nat → ClassId} {ld ad : Nat → Nat} (hK : kk_K D cy ld s) (hZ0 : tk_Z ld (fun _ => (0, 0, 0)) s) {t : tk_T} {a0 am : Nat} {F : Nat → Int32} {G : Nat → Int64} {R : Nat → Nat → Int32} {S : Nat → Nat → Int64} {H : Heap} {locs : List Loc} (hI : lw_I D cy ld t ad a0 am s.heap.size F G R S H) (hJ : lw_J D ld t a0 F R H) (hS : va_S (fun q : Nat => s.heap.size ≤ q) s.heap H locs) (hS0 : s.heap.size ≤ H.size) (hL : L ≤ 3072) {v : Int32} {i : Int} (hv : v.toInt = i) (hi : 0 ≤ i) (hiL : i + 6 ≤ (L : Int)) {cells slots : Nat} (hc : cells + 7 ≤ 600000) (hs : slots + 1106 ≤ 7302250) (ls : Array Slot) (hl : lv_has ls 4 [(3, .int v), (2, .ref am), (1, .ref a0), (0, .ref b)]) (kk : ∀ (t : tk_T) (F : Nat → Int32) (G : Nat → Int64) (R : Nat → Nat → Int32) (S : Nat → Nat → Int64) (H : Heap) (locs : List Loc) (ls : Array Slot), lw_I D cy ld t ad a0 am s.heap.size F G R S H → lw_J D ld t a0 F R H → va_S (fun q : Nat => s.heap.size ≤ q) s.heap H locs → lv_has ls 4 [(3, .int v), (2, .ref am), (1, .ref a0), (0, .ref b)] → W p l e room_1 s m #[Value.ref b] below meth c H locs (cells + 7) (slots + 1106) (lw_Z below #[Value.ref b] s) (F0 m 1375 ls [])) : W p l e room_1 s m #[Value.ref b] below meth c H locs (cells) (slots) (lw_Z below #[Value.ref b] s) (F0 m 321 ls []) := by
  obtain ⟨hx, hb, hr, hml, hown, hts, hX, hbl, hlocks, hgv⟩ := id C0
  have hown : s.vm.findClass RL = some m.cls := hown
  have hbA : ¬ (fun q : Nat => s.heap.size ≤ q) b := Nat.not_le.mpr hbl
  obtain ⟨ht0, hG, hge, hD, hM, ⟨hIF, hIG, hIR⟩, hsep, hwge⟩ := hI
  have hZ := lw_Z0 hZ0 hge
  have hAZ : ∀ q : Nat, q < s.heap.size → (fun q : Nat => s.heap.size ≤ q) q → (t q).1 ≠ 0 := fun q h1 h2 => absurd h2 (Nat.not_le.mpr h1)
  obtain ⟨hT, ⟨n0, n1, n2, n3, fh, fs, fk, q1, q2, q3, hC, hR⟩, hKI, ⟨ft, htp, htr⟩, hj13, hj15⟩ := hJ
  obtain ⟨⟨e30, e31, e32, e33⟩, ⟨⟨b0, b1⟩, ⟨b2, b3⟩, ⟨b4, b5⟩, b6, b7⟩, -⟩ := id hR
  obtain ⟨y0, ey0⟩ : ∃ z : Int32, F 13 = z := ⟨_, rfl⟩
  have hy0 : 0 ≤ y0.toInt ∧ y0.toInt ≤ 400 := hIF.at ey0
  rw [ey0] at hj13 htr
  obtain ⟨y5, ey5⟩ : ∃ z : Int32, F 11 = z := ⟨_, rfl⟩
  rw [ey5] at hj15
  have hy5 := tk_rng y5
  obtain ⟨ht_ld20, ht_ld70, ht_ld80, ht_ld90, ht_ld100, ht_ld110, ht_ld120⟩ := id hT.1
  obtain ⟨ht_ld24, ht_ld76, ht_ld86, ht_ld96, ht_ld106, ht_ld116, ht_ld126⟩ := id hT.2.1
  obtain ⟨ht_ld25, ht_ld77, ht_ld87, ht_ld97, ht_ld107, ht_ld117, ht_ld127⟩ := id hT.2.2.1
  have ht_ld26 := hT.2.2.2.1
  have ht_ld49 := hT.2.2.2.2
  obtain ⟨x1, hx1⟩ : ∃ z, xs (v + 1 : Int32).toNatClampNeg = z := ⟨_, rfl⟩
  have hk1 : (1 : Int32).toInt = 1 := by decide
  obtain ⟨x2, hx2⟩ : ∃ z, xs (v + 2 : Int32).toNatClampNeg = z := ⟨_, rfl⟩
  have hk2 : (2 : Int32).toInt = 2 := by decide
  have hsp : (x1.toInt ≤ (-1)) ∨ (0 ≤ (-1) * n1.toInt + x1.toInt) ∨ (x2.toInt ≤ (-1)) ∨ (2 ≤ x2.toInt) ∨ (0 ≤ x1.toInt ∧ x1.toInt < n1.toInt ∧ x2.toInt = 0) ∨ (0 ≤ x1.toInt ∧ x1.toInt < n1.toInt ∧ x2.toInt = 1) := by omega
  refine lv_aload_n hx hb dL_law_321 rfl (lv_at hl 2 rfl) ?_
  refine lv_aload_n hx hb dL_law_322 rfl (lv_at hl 3 rfl) ?_
  refine lv_iload_n hx hb dL_law_323 rfl (lv_at hl 0 rfl) ?_
  refine lv_iconst (v := 1) hx hb dL_law_324 (by decide) ?_
  refine lv_iadd hx hb dL_law_325 ?_
  refine va_sld hx hb hX hbl hbA hS (lw_in hv hk1 (by omega) (by omega) (by omega) hL) dL_law_326 ?_
  refine fx_ti (v := x1) hx1 ?_
  refine lv_aload_n hx hb dL_law_327 rfl (lv_at hl 3 rfl) ?_
  refine lv_iload_n hx hb dL_law_328 rfl (lv_at hl 0 rfl) ?_
  refine lv_iconst (v := 2) hx hb dL_law_329 (by decide) ?_
  refine lv_iadd hx hb dL_law_330 ?_
  refine va_sld hx hb hX hbl hbA hS (lw_in hv hk2 (by omega) (by omega) (by omega) hL) dL_law_331 ?_
  refine fx_ti (v := x2) hx2 ?_
  refine tk_ViA (As := [.int x1, .int x2]) (rest := []) (ci := 12) ⟨hx, hb, hml, hown, htl⟩ hK hG hZ hAZ hS (k_X12_at_x l D cy ld t a0 x1 x2 n0 n1 n2 n3 fh fs fk q1 q2 q3 ht0 ht_ld20 ht_ld70 ht_ld80 ht_ld90 ht_ld100 ht_ld110 ht_ld120 (by omega) (by omega) (by omega) (by omega) (by omega) (by omega) (by omega) (by omega)) hC ⟨callB_of 2 htl (wl_inL mw_346) rfl rfl rfl (htl _ mw_2) (htl _ mw_343) hd_yX12_at ⟨(Nat.le_of_ble_eq_true rfl), (Nat.le_of_ble_eq_true rfl)⟩, htl _ mw_344, htl _ mw_345⟩ ht0 (by decide) tk_no rfl (fun q h => hge q h.1) rfl hl.1 rfl (Nat.le_of_ble_eq_true rfl) dL_law_332 ⟨by show cells + 0 ≤ 600000; omega, by show slots + 0 ≤ 7302250; omega⟩ (fun r1 H locs hpo1 hG hS hz9 hq9 => ?_)
  obtain ⟨hp1_0, hp1_1, hp1_2, hp1_3, hraw_0, hraw_1, hC⟩ := hpo1
  have hKI := jK.call hT hKI hq9 (by decide) (by decide) (by decide)
  have htp := htp.call hq9 (tk_w.no ht_ld26 (by decide))
  have hj13 := hj13.call hq9 (tk_w.no ht0 (by decide))
  have hj15 := hj15.call hq9 (tk_w.no ht0 (by decide))
  have hM := hM.frame (H1 := H) (fun q hq => hq9 q (hM.lt hq) (fun h => hsep q h.1 hq))
  refine lv_pop hx hb dL_law_335 rfl ?_
  refine lv_aload_n hx hb dL_law_336 rfl (lv_at hl 1 rfl) ?_
  refine lv_aload_n hx hb dL_law_337 rfl (lv_at hl 3 rfl) ?_
  refine lv_iload_n hx hb dL_law_338 rfl (lv_at hl 0 rfl) ?_
  refine lv_iconst (v := 1) hx hb dL_law_339 (by decide) ?_
  refine lv_iadd hx hb dL_law_340 ?_
  refine va_sld hx hb hX hbl hbA hS (lw_in hv hk1 (by omega) (by omega) (by omega) hL) dL_law_341 ?_
  refine fx_ti (v := x1) hx1 ?_
  refine lv_aload_n hx hb dL_law_342 rfl (lv_at hl 3 rfl) ?_
  refine lv_iload_n hx hb dL_law_343 rfl (lv_at hl 0 rfl) ?_
  refine lv_iconst (v := 2) hx hb dL_law_344 (by decide) ?_
  refine lv_iadd hx hb dL_law_345 ?_
  refine va_sld hx hb hX hbl hbA hS (lw_in hv hk2 (by omega) (by omega) (by omega) hL) dL_law_346 ?_
  refine fx_ti (v := x2) hx2 ?_
  refine mz_ViA (As := [.int x1, .int x2]) (rest := []) ⟨hx, hb, hml, hown, htl⟩ hK hM hS (fun q h => hwge q h) (k_X13_at_x l D cy ld ad am hD _ _ _ _ x1 x2 _ hIF hIG hIR e31) ⟨callB_of 2 htl (wl_inL mw_356) rfl rfl rfl (htl _ mw_5) (htl _ mw_353) hd_yX13_at ⟨(Nat.le_of_ble_eq_true rfl), (Nat.le_of_ble_eq_true rfl)⟩, htl _ mw_354, htl _ mw_355⟩ rfl hl.1 rfl (Nat.le_of_ble_eq_true rfl) dL_law_347 ⟨by show cells + 0 + 0 ≤ 600000; omega, by show slots + 0 + 0 ≤ 7302250; omega⟩ (fun r2 H locs F G R S hpo hM hS hz9 hq9 => ?_)
  have hall := fun (q : Nat) (hq : (t q).1 ≠ 0) => hq9 q (hG.lt hq) (hsep q hq)
  have hG := hG.frame (H1 := H) hall
  have hC := jC.all hT.1 hC hall
  have hKI := jK.all hT hKI hall
  have htp := htp.kept (hall _ (by rw [ht_ld26]; exact Nat.succ_ne_zero _))
  have hj13 := hj13.kept (hall _ (by rw [ht0]; exact Nat.succ_ne_zero _))
  have hj15 := hj15.kept (hall _ (by rw [ht0]; exact Nat.succ_ne_zero _))
  obtain ⟨hIF, hIG, hIR, hfr9, hrr9, hgr9, hp2_0, hp2_1, hp2_2, hp2_3, hp2_4⟩ := hpo
  have hv9 : r1.toInt = r2.toInt := by
    rcases hsp with h | h | h | h | h | h
    · exact jq1 (hp1_0 (h)) (hp2_0 (h))
    · exact jq1 (hp1_1 (h)) (hp2_1 (h))
    · exact jq1 (hp1_2 (h)) (hp2_2 (h))
    · exact jq1 (hp1_3 (h)) (hp2_3 (h))
    · have h3 := hraw_0 h.1 h.2.1 h.2.2
      have h4 := hp2_4.1 h.1 h.2.1 h.2.2
      have h5 := (hR.2.2.2.1 x1.toInt.toNat (by omega)).1
      rw [h3, h4, h5]
    · have h3 := hraw_1 h.1 h.2.1 h.2.2
      have h4 := hp2_4.2 h.1 h.2.1 h.2.2
      have h5 := (hR.2.2.2.1 x1.toInt.toNat (by omega)).2
      rw [h3, h4, h5]
  have hR := hR.rel (rK3.refl (hrr9 3 (by decide)))
  have hKI : jK D ld (R 4) (R 5) H := by rw [hrr9 4 (by decide), hrr9 5 (by decide)]; exact hKI
  have eF13 := (hfr9 13 (by decide)).trans ey0
  have htr : ∀ j : Nat, (j : Int) < y0.toInt → ft j = R 12 j := by rw [hrr9 12 (by decide)]; exact htr
  have eF11 := (hfr9 11 (by decide)).trans ey5
  have hJ9 : lw_J D ld t a0 F R H := ⟨hT, ⟨_, _, _, _, _, _, _, _, _, _, hC, hR⟩, hKI, ⟨_, htp, by rw [eF13]; exact htr⟩, by rw [eF13]; exact hj13, by rw [eF11]; exact hj15⟩
  refine lv_pop hx hb dL_law_350 rfl ?_
  refine lv_goto (tgt := 1375) hx hb dL_law_351 (by decide) ?_
  refine W.widen (k := cells + 7) (n := slots + 1106) (by exact Nat.le_add_right _ _) (by exact Nat.le_add_right _ _) ?_
  exact kk t F G R S H locs ls ⟨ht0, hG, hge, hD, hM, ⟨hIF, hIG, hIR⟩, hsep, hwge⟩ hJ9 hS hl
set_option maxHeartbeats 8000000 in
set_option maxRecDepth 100000 in
theorem law_4 {p : Program} {l : Launch} {e : Env} {s : State} {m : MethodId} {below : List Frame} {meth : Method} {c : Code} {b L : Nat} {xs : Nat → Int32} (C0 : lw_At p s m meth c b L xs) (htl : ∀ w ∈ wsA, w.before #[Value.ref b] s = true) {D : va_G} {cy : Nat → ClassId} {ld ad : Nat → Nat} (hK : kk_K D cy ld s) (hZ0 : tk_Z ld (fun _ => (0, 0, 0)) s) {t : tk_T} {a0 am : Nat} {F : Nat → Int32} {G : Nat → Int64} {R : Nat → Nat → Int32} {S : Nat → Nat → Int64} {H : Heap} {locs : List Loc} (hI : lw_I D cy ld t ad a0 am s.heap.size F G R S H) (hJ : lw_J D ld t a0 F R H) (hS : va_S (fun q : Nat => s.heap.size ≤ q) s.heap H locs) (hS0 : s.heap.size ≤ H.size) (hL : L ≤ 3072) {v : Int32} {i : Int} (hv : v.toInt = i) (hi : 0 ≤ i) (hiL : i + 6 ≤ (L : Int)) {cells slots : Nat} (hc : cells + 7 ≤ 600000) (hs : slots + 1106 ≤ 7302250) (ls : Array Slot) (hl : lv_has ls 4 [(3, .int v), (2, .ref am), (1, .ref a0), (0, .ref b)]) (kk : ∀ (t : tk_T) (F : Nat → Int32) (G : Nat → Int64) (R : Nat → Nat → Int32) (S : Nat → Nat → Int64) (H : Heap) (locs : List Loc) (ls : Array Slot), lw_I D cy ld t ad a0 am s.heap.size F G R S H → lw_J D ld t a0 F R H → va_S (fun q : Nat => s.heap.size ≤ q) s.heap H locs → lv_has ls 4 [(3, .int v), (2, .ref am), (1, .ref a0), (0, .ref b)] → W p l e room_1 s m #[Value.ref b] below meth c H locs (cells + 7) (slots + 1106) (lw_Z below #[Value.ref b] s) (F0 m 1375 ls [])) : W p l e room_1 s m #[Value.ref b] below meth c H locs (cells) (slots) (lw_Z below #[Value.ref b] s) (F0 m 354 ls []) := by
  obtain ⟨hx, hb, hr, hml, hown, hts, hX, hbl, hlocks, hgv⟩ := id C0
  have hown : s.vm.findClass RL = some m.cls := hown
  have hbA : ¬ (fun q : Nat => s.heap.size ≤ q) b := Nat.not_le.mpr hbl
  obtain ⟨ht0, hG, hge, hD, hM, ⟨hIF, hIG, hIR⟩, hsep, hwge⟩ := hI
  have hZ := lw_Z0 hZ0 hge
  have hAZ : ∀ q : Nat, q < s.heap.size → (fun q : Nat => s.heap.size ≤ q) q → (t q).1 ≠ 0 := fun q h1 h2 => absurd h2 (Nat.not_le.mpr h1)
  obtain ⟨hT, ⟨n0, n1, n2, n3, fh, fs, fk, q1, q2, q3, hC, hR⟩, hKI, ⟨ft, htp, htr⟩, hj13, hj15⟩ := hJ
  obtain ⟨⟨e30, e31, e32, e33⟩, ⟨⟨b0, b1⟩, ⟨b2, b3⟩, ⟨b4, b5⟩, b6, b7⟩, -⟩ := id hR
  obtain ⟨y0, ey0⟩ : ∃ z : Int32, F 13 = z := ⟨_, rfl⟩
  have hy0 : 0 ≤ y0.toInt ∧ y0.toInt ≤ 400 := hIF.at ey0
  rw [ey0] at hj13 htr
  obtain ⟨y5, ey5⟩ : ∃ z : Int32, F 11 = z := ⟨_, rfl⟩
  rw [ey5] at hj15
  have hy5 := tk_rng y5
  obtain ⟨ht_ld20, ht_ld70, ht_ld80, ht_ld90, ht_ld100, ht_ld110, ht_ld120⟩ := id hT.1
  obtain ⟨ht_ld24, ht_ld76, ht_ld86, ht_ld96, ht_ld106, ht_ld116, ht_ld126⟩ := id hT.2.1
  obtain ⟨ht_ld25, ht_ld77, ht_ld87, ht_ld97, ht_ld107, ht_ld117, ht_ld127⟩ := id hT.2.2.1
  have ht_ld26 := hT.2.2.2.1
  have ht_ld49 := hT.2.2.2.2
  obtain ⟨x1, hx1⟩ : ∃ z, xs (v + 1 : Int32).toNatClampNeg = z := ⟨_, rfl⟩
  have hk1 : (1 : Int32).toInt = 1 := by decide
  obtain ⟨x2, hx2⟩ : ∃ z, xs (v + 2 : Int32).toNatClampNeg = z := ⟨_, rfl⟩
  have hk2 : (2 : Int32).toInt = 2 := by decide
  obtain ⟨x3, hx3⟩ : ∃ z, xs (v + 3 : Int32).toNatClampNeg = z := ⟨_, rfl⟩
  have hk3 : (3 : Int32).toInt = 3 := by decide
  have hsp : (x1.toInt ≤ 0) ∨ (100 ≤ x1.toInt) ∨ (x2.toInt ≤ (-1)) ∨ (5 ≤ x2.toInt) ∨ (x3.toInt ≤ 0) ∨ (10 ≤ x3.toInt) ∨ (1 ≤ x1.toInt ∧ x1.toInt ≤ 99 ∧ 0 ≤ x2.toInt ∧ x2.toInt ≤ 4 ∧ 1 ≤ x3.toInt ∧ x3.toInt ≤ 9 ∧ 10 ≤ n2.toInt) ∨ (1 ≤ x1.toInt ∧ x1.toInt ≤ 99 ∧ 0 ≤ x2.toInt ∧ x2.toInt ≤ 4 ∧ 1 ≤ x3.toInt ∧ x3.toInt ≤ 9 ∧ n2.toInt ≤ 9) := by omega
  refine lv_aload_n hx hb dL_law_354 rfl (lv_at hl 2 rfl) ?_
  refine lv_aload_n hx hb dL_law_355 rfl (lv_at hl 3 rfl) ?_
  refine lv_iload_n hx hb dL_law_356 rfl (lv_at hl 0 rfl) ?_
  refine lv_iconst (v := 1) hx hb dL_law_357 (by decide) ?_
  refine lv_iadd hx hb dL_law_358 ?_
  refine va_sld hx hb hX hbl hbA hS (lw_in hv hk1 (by omega) (by omega) (by omega) hL) dL_law_359 ?_
  refine fx_ti (v := x1) hx1 ?_
  refine lv_aload_n hx hb dL_law_360 rfl (lv_at hl 3 rfl) ?_
  refine lv_iload_n hx hb dL_law_361 rfl (lv_at hl 0 rfl) ?_
  refine lv_iconst (v := 2) hx hb dL_law_362 (by decide) ?_
  refine lv_iadd hx hb dL_law_363 ?_
  refine va_sld hx hb hX hbl hbA hS (lw_in hv hk2 (by omega) (by omega) (by omega) hL) dL_law_364 ?_
  refine fx_ti (v := x2) hx2 ?_
  refine lv_aload_n hx hb dL_law_365 rfl (lv_at hl 3 rfl) ?_
  refine lv_iload_n hx hb dL_law_366 rfl (lv_at hl 0 rfl) ?_
  refine lv_iconst (v := 3) hx hb dL_law_367 (by decide) ?_
  refine lv_iadd hx hb dL_law_368 ?_
  refine va_sld hx hb hX hbl hbA hS (lw_in hv hk3 (by omega) (by omega) (by omega) hL) dL_law_369 ?_
  refine fx_ti (v := x3) hx3 ?_
  refine tk_ViA (As := [.int x1, .int x2, .int x3]) (rest := []) (ci := 12) ⟨hx, hb, hml, hown, htl⟩ hK hG hZ hAZ hS (k_X12_piece_x l D cy ld t a0 x1 x2 x3 y0 y5 n0 n1 n2 n3 fh fs fk q1 q2 q3 ht0 ht_ld20 ht_ld70 ht_ld80 ht_ld90 ht_ld100 ht_ld110 ht_ld120 (by omega) (by omega) (by omega) (by omega) (by omega) (by omega) (by omega) (by omega) (by omega) (by omega) (by omega) (by omega)) ⟨hj13, hj15, hC⟩ ⟨callB_of 3 htl (wl_inL mw_364) rfl rfl rfl (htl _ mw_2) (htl _ mw_361) hd_yX12_piece ⟨(Nat.le_of_ble_eq_true rfl), (Nat.le_of_ble_eq_true rfl)⟩, htl _ mw_362, htl _ mw_363⟩ ht0 (by decide) tk_no rfl (fun q h => hge q h.1) rfl hl.1 rfl (Nat.le_of_ble_eq_true rfl) dL_law_370 ⟨by show cells + 0 ≤ 600000; omega, by show slots + 0 ≤ 7302250; omega⟩ (fun r1 H locs hpo1 hG hS hz9 hq9 => ?_)
  obtain ⟨hp1_0, hp1_1, hp1_2, hp1_3, hp1_4, hp1_5, hp1_6, hp1_7, hp1_8, hj13, hj15, ⟨wn2, hC, hw0, hw1⟩⟩ := hpo1
  have hKI := jK.call hT hKI hq9 (by decide) (by decide) (by decide)
  have htp := htp.call hq9 (tk_w.no ht_ld26 (by decide))
  have hM := hM.frame (H1 := H) (fun q hq => hq9 q (hM.lt hq) (fun h => hsep q h.1 hq))
  refine lv_pop hx hb dL_law_373 rfl ?_
  refine lv_aload_n hx hb dL_law_374 rfl (lv_at hl 1 rfl) ?_
  refine lv_aload_n hx hb dL_law_375 rfl (lv_at hl 3 rfl) ?_
  refine lv_iload_n hx hb dL_law_376 rfl (lv_at hl 0 rfl) ?_
  refine lv_iconst (v := 1) hx hb dL_law_377 (by decide) ?_
  refine lv_iadd hx hb dL_law_378 ?_
  refine va_sld hx hb hX hbl hbA hS (lw_in hv hk1 (by omega) (by omega) (by omega) hL) dL_law_379 ?_
  refine fx_ti (v := x1) hx1 ?_
  refine lv_aload_n hx hb dL_law_380 rfl (lv_at hl 3 rfl) ?_
  refine lv_iload_n hx hb dL_law_381 rfl (lv_at hl 0 rfl) ?_
  refine lv_iconst (v := 2) hx hb dL_law_382 (by decide) ?_
  refine lv_iadd hx hb dL_law_383 ?_
  refine va_sld hx hb hX hbl hbA hS (lw_in hv hk2 (by omega) (by omega) (by omega) hL) dL_law_384 ?_
  refine fx_ti (v := x2) hx2 ?_
  refine lv_aload_n hx hb dL_law_385 rfl (lv_at hl 3 rfl) ?_
  refine lv_iload_n hx hb dL_law_386 rfl (lv_at hl 0 rfl) ?_
  refine lv_iconst (v := 3) hx hb dL_law_387 (by decide) ?_
  refine lv_iadd hx hb dL_law_388 ?_
  refine va_sld hx hb hX hbl hbA hS (lw_in hv hk3 (by omega) (by omega) (by omega) hL) dL_law_389 ?_
  refine fx_ti (v := x3) hx3 ?_
  refine mz_ViA (As := [.int x1, .int x2, .int x3]) (rest := []) ⟨hx, hb, hml, hown, htl⟩ hK hM hS (fun q h => hwge q h) (k_X13_piece_x l D cy ld ad am hD _ _ _ _ x1 x2 x3 _ hIF hIG hIR e32) ⟨callB_of 3 htl (wl_inL mw_373) rfl rfl rfl (htl _ mw_5) (htl _ mw_370) hd_yX13_piece ⟨(Nat.le_of_ble_eq_true rfl), (Nat.le_of_ble_eq_true rfl)⟩, htl _ mw_371, htl _ mw_372⟩ rfl hl.1 rfl (Nat.le_of_ble_eq_true rfl) dL_law_390 ⟨by show cells + 0 + 0 ≤ 600000; omega, by show slots + 0 + 0 ≤ 7302250; omega⟩ (fun r2 H locs F G R S hpo hM hS hz9 hq9 => ?_)
  have hall := fun (q : Nat) (hq : (t q).1 ≠ 0) => hq9 q (hG.lt hq) (hsep q hq)
  have hG := hG.frame (H1 := H) hall
  have hC := jC.all hT.1 hC hall
  have hKI := jK.all hT hKI hall
  have htp := htp.kept (hall _ (by rw [ht_ld26]; exact Nat.succ_ne_zero _))
  have hj13 := hj13.kept (hall _ (by rw [ht0]; exact Nat.succ_ne_zero _))
  have hj15 := hj15.kept (hall _ (by rw [ht0]; exact Nat.succ_ne_zero _))
  obtain ⟨hIF, hIG, hIR, hfr9, hrr9, hgr9, hp2_0, hp2_1, hp2_2, hp2_3, hp2_4, hp2_5, hp2_6, hp2_7, hp2_8, hp2_9, hp2_10⟩ := hpo
  have hv9 : r1.toInt = r2.toInt := by
    rcases hsp with h | h | h | h | h | h | h | h
    · exact jq1 (hp1_0 (h)) (hp2_0 (h))
    · exact jq1 (hp1_1 (h)) (hp2_1 (h))
    · exact jq1 (hp1_2 (h)) (hp2_2 (h))
    · exact jq1 (hp1_3 (h)) (hp2_3 (h))
    · exact jq1 (hp1_4 (h)) (hp2_4 (h))
    · exact jq1 (hp1_5 (h)) (hp2_5 (h))
    · exact jq1 (hp1_6 (h.1) (h.2.1) (h.2.2.1) (h.2.2.2.1) (h.2.2.2.2.1) (h.2.2.2.2.2.1) (h.2.2.2.2.2.2)) (hp2_6 (h.1) (h.2.1) (h.2.2.1) (h.2.2.2.1) (h.2.2.2.2.1) (h.2.2.2.2.2.1) (h.2.2.2.2.2.2))
    · exact jq2 (hp1_7 (h.1) (h.2.1) (h.2.2.1) (h.2.2.2.1) (h.2.2.2.2.1) (h.2.2.2.2.2.1) (h.2.2.2.2.2.2)) (hp2_7 (h.1) (h.2.1) (h.2.2.1) (h.2.2.2.1) (h.2.2.2.2.1) (h.2.2.2.2.2.1) (h.2.2.2.2.2.2))
  have hR := jR.piece (x := wn2) hR hv9 (fun h => ⟨by have h1 := hp1_8 h; omega, by have h1 := hw0 h; omega⟩) (fun h => by have h1 := hw1 h; omega) rfl hp2_10
  have hKI : jK D ld (R 4) (R 5) H := by rw [hrr9 4 (by decide), hrr9 5 (by decide)]; exact hKI
  have eF13 := (hfr9 13 (by decide)).trans ey0
  have htr : ∀ j : Nat, (j : Int) < y0.toInt → ft j = R 12 j := by rw [hrr9 12 (by decide)]; exact htr
  have eF11 := (hfr9 11 (by decide)).trans ey5
  have hJ9 : lw_J D ld t a0 F R H := ⟨hT, ⟨_, _, _, _, _, _, _, _, _, _, hC, hR⟩, hKI, ⟨_, htp, by rw [eF13]; exact htr⟩, by rw [eF13]; exact hj13, by rw [eF11]; exact hj15⟩
  refine lv_pop hx hb dL_law_393 rfl ?_
  refine lv_goto (tgt := 1375) hx hb dL_law_394 (by decide) ?_
  refine W.widen (k := cells + 7) (n := slots + 1106) (by exact Nat.le_add_right _ _) (by exact Nat.le_add_right _ _) ?_
  exact kk t F G R S H locs ls ⟨ht0, hG, hge, hD, hM, ⟨hIF, hIG, hIR⟩, hsep, hwge⟩ hJ9 hS hl
set_option maxHeartbeats 8000000 in
set_option maxRecDepth 100000 in
theorem law_5 {p : Program} {l : Launch} {e : Env} {s : State} {m : MethodId} {below : List Frame} {meth : Method} {c : Code} {b L : Nat} {xs : Nat → Int32} (C0 : lw_At p s m meth c b L xs) (htl : ∀ w ∈ wsA, w.before #[Value.ref b] s = true) {D : va_G} {cy : Nat → ClassId} {ld ad : Nat → Nat} (hK : kk_K D cy ld s) (hZ0 : tk_Z ld (fun _ => (0, 0, 0)) s) {t : tk_T} {a0 am : Nat} {F : Nat → Int32} {G : Nat → Int64} {R : Nat → Nat → Int32} {S : Nat → Nat → Int64} {H : Heap} {locs : List Loc} (hI : lw_I D cy ld t ad a0 am s.heap.size F G R S H) (hJ : lw_J D ld t a0 F R H) (hS : va_S (fun q : Nat => s.heap.size ≤ q) s.heap H locs) (hS0 : s.heap.size ≤ H.size) (hL : L ≤ 3072) {v : Int32} {i : Int} (hv : v.toInt = i) (hi : 0 ≤ i) (hiL : i + 6 ≤ (L : Int)) {cells slots : Nat} (hc : cells + 7 ≤ 600000) (hs : slots + 1106 ≤ 7302250) (ls : Array Slot) (hl : lv_has ls 4 [(3, .int v), (2, .ref am), (1, .ref a0), (0, .ref b)]) (kk : ∀ (t : tk_T) (F : Nat → Int32) (G : Nat → Int64) (R : Nat → Nat → Int32) (S : Nat → Nat → Int64) (H : Heap) (locs : List Loc) (ls : Array Slot), lw_I D cy ld t ad a0 am s.heap.size F G R S H → lw_J D ld t a0 F R H → va_S (fun q : Nat => s.heap.size ≤ q) s.heap H locs → lv_has ls 4 [(3, .int v), (2, .ref am), (1, .ref a0), (0, .ref b)] → W p l e room_1 s m #[Value.ref b] below meth c H locs (cells + 7) (slots + 1106) (lw_Z below #[Value.ref b] s) (F0 m 1375 ls [])) : W p l e room_1 s m #[Value.ref b] below meth c H locs (cells) (slots) (lw_Z below #[Value.ref b] s) (F0 m 397 ls []) := by
  obtain ⟨hx, hb, hr, hml, hown, hts, hX, hbl, hlocks, hgv⟩ := id C0
  have hown : s.vm.findClass RL = some m.cls := hown
  have hbA : ¬ (fun q : Nat => s.heap.size ≤ q) b := Nat.not_le.mpr hbl
  obtain ⟨ht0, hG, hge, hD, hM, ⟨hIF, hIG, hIR⟩, hsep, hwge⟩ := hI
  have hZ := lw_Z0 hZ0 hge
  have hAZ : ∀ q : Nat, q < s.heap.size → (fun q : Nat => s.heap.size ≤ q) q → (t q).1 ≠ 0 := fun q h1 h2 => absurd h2 (Nat.not_le.mpr h1)
  obtain ⟨hT, ⟨n0, n1, n2, n3, fh, fs, fk, q1, q2, q3, hC, hR⟩, hKI, ⟨ft, htp, htr⟩, hj13, hj15⟩ := hJ
  obtain ⟨⟨e30, e31, e32, e33⟩, ⟨⟨b0, b1⟩, ⟨b2, b3⟩, ⟨b4, b5⟩, b6, b7⟩, -⟩ := id hR
  obtain ⟨y0, ey0⟩ : ∃ z : Int32, F 13 = z := ⟨_, rfl⟩
  have hy0 : 0 ≤ y0.toInt ∧ y0.toInt ≤ 400 := hIF.at ey0
  rw [ey0] at hj13 htr
  obtain ⟨y5, ey5⟩ : ∃ z : Int32, F 11 = z := ⟨_, rfl⟩
  rw [ey5] at hj15
  have hy5 := tk_rng y5
  obtain ⟨ht_ld20, ht_ld70, ht_ld80, ht_ld90, ht_ld100, ht_ld110, ht_ld120⟩ := id hT.1
  obtain ⟨ht_ld24, ht_ld76, ht_ld86, ht_ld96, ht_ld106, ht_ld116, ht_ld126⟩ := id hT.2.1
  obtain ⟨ht_ld25, ht_ld77, ht_ld87, ht_ld97, ht_ld107, ht_ld117, ht_ld127⟩ := id hT.2.2.1
  have ht_ld26 := hT.2.2.2.1
  have ht_ld49 := hT.2.2.2.2
  obtain ⟨x1, hx1⟩ : ∃ z, xs (v + 1 : Int32).toNatClampNeg = z := ⟨_, rfl⟩
  have hk1 : (1 : Int32).toInt = 1 := by decide
  obtain ⟨x2, hx2⟩ : ∃ z, xs (v + 2 : Int32).toNatClampNeg = z := ⟨_, rfl⟩
  have hk2 : (2 : Int32).toInt = 2 := by decide
  obtain ⟨x3, hx3⟩ : ∃ z, xs (v + 3 : Int32).toNatClampNeg = z := ⟨_, rfl⟩
  have hk3 : (3 : Int32).toInt = 3 := by decide
  have hsp : (x1.toInt + (-1) * x2.toInt = 0) ∨ (x3.toInt ≤ (-1)) ∨ (2 ≤ x3.toInt) ∨ (0 ≤ x1.toInt + (-1) * x2.toInt + (-1) ∧ 0 ≤ x3.toInt ∧ x3.toInt ≤ 1 ∧ x1.toInt ≤ (-1)) ∨ (0 ≤ x1.toInt + (-1) * x2.toInt + (-1) ∧ 0 ≤ x3.toInt ∧ x3.toInt ≤ 1 ∧ 0 ≤ (-1) * n0.toInt + x1.toInt) ∨ (0 ≤ x1.toInt + (-1) * x2.toInt + (-1) ∧ 0 ≤ x3.toInt ∧ x3.toInt ≤ 1 ∧ x2.toInt ≤ (-1)) ∨ (0 ≤ x1.toInt + (-1) * x2.toInt + (-1) ∧ 0 ≤ x3.toInt ∧ x3.toInt ≤ 1 ∧ 0 ≤ (-1) * n0.toInt + x2.toInt) ∨ (0 ≤ x1.toInt + (-1) * x2.toInt + (-1) ∧ 0 ≤ x3.toInt ∧ x3.toInt ≤ 1 ∧ 0 ≤ x1.toInt ∧ 0 ≤ n0.toInt + (-1) * x1.toInt + (-1) ∧ 0 ≤ x2.toInt ∧ 0 ≤ n0.toInt + (-1) * x2.toInt + (-1)) ∨ (0 ≤ (-1) * x1.toInt + x2.toInt + (-1) ∧ 0 ≤ x3.toInt ∧ x3.toInt ≤ 1 ∧ x1.toInt ≤ (-1)) ∨ (0 ≤ (-1) * x1.toInt + x2.toInt + (-1) ∧ 0 ≤ x3.toInt ∧ x3.toInt ≤ 1 ∧ 0 ≤ (-1) * n0.toInt + x1.toInt) ∨ (0 ≤ (-1) * x1.toInt + x2.toInt + (-1) ∧ 0 ≤ x3.toInt ∧ x3.toInt ≤ 1 ∧ x2.toInt ≤ (-1)) ∨ (0 ≤ (-1) * x1.toInt + x2.toInt + (-1) ∧ 0 ≤ x3.toInt ∧ x3.toInt ≤ 1 ∧ 0 ≤ (-1) * n0.toInt + x2.toInt) ∨ (0 ≤ (-1) * x1.toInt + x2.toInt + (-1) ∧ 0 ≤ x3.toInt ∧ x3.toInt ≤ 1 ∧ 0 ≤ x1.toInt ∧ 0 ≤ n0.toInt + (-1) * x1.toInt + (-1) ∧ 0 ≤ x2.toInt ∧ 0 ≤ n0.toInt + (-1) * x2.toInt + (-1)) := by omega
  refine lv_aload_n hx hb dL_law_397 rfl (lv_at hl 2 rfl) ?_
  refine lv_aload_n hx hb dL_law_398 rfl (lv_at hl 3 rfl) ?_
  refine lv_iload_n hx hb dL_law_399 rfl (lv_at hl 0 rfl) ?_
  refine lv_iconst (v := 1) hx hb dL_law_400 (by decide) ?_
  refine lv_iadd hx hb dL_law_401 ?_
  refine va_sld hx hb hX hbl hbA hS (lw_in hv hk1 (by omega) (by omega) (by omega) hL) dL_law_402 ?_
  refine fx_ti (v := x1) hx1 ?_
  refine lv_aload_n hx hb dL_law_403 rfl (lv_at hl 3 rfl) ?_
  refine lv_iload_n hx hb dL_law_404 rfl (lv_at hl 0 rfl) ?_
  refine lv_iconst (v := 2) hx hb dL_law_405 (by decide) ?_
  refine lv_iadd hx hb dL_law_406 ?_
  refine va_sld hx hb hX hbl hbA hS (lw_in hv hk2 (by omega) (by omega) (by omega) hL) dL_law_407 ?_
  refine fx_ti (v := x2) hx2 ?_
  refine lv_aload_n hx hb dL_law_408 rfl (lv_at hl 3 rfl) ?_
  refine lv_iload_n hx hb dL_law_409 rfl (lv_at hl 0 rfl) ?_
  refine lv_iconst (v := 3) hx hb dL_law_410 (by decide) ?_
  refine lv_iadd hx hb dL_law_411 ?_
  refine va_sld hx hb hX hbl hbA hS (lw_in hv hk3 (by omega) (by omega) (by omega) hL) dL_law_412 ?_
  refine fx_ti (v := x3) hx3 ?_
  refine tk_ViA (As := [.int x1, .int x2, .int x3]) (rest := []) (ci := 12) ⟨hx, hb, hml, hown, htl⟩ hK hG hZ hAZ hS (k_X12_hears_x l D cy ld t a0 x1 x2 x3 y0 y5 n0 n1 n2 n3 fh fs fk q1 q2 q3 ht0 ht_ld20 ht_ld70 ht_ld80 ht_ld90 ht_ld100 ht_ld110 ht_ld120 (by omega) (by omega) (by omega) (by omega) (by omega) (by omega) (by omega) (by omega) (by omega) (by omega) (by omega) (by omega)) ⟨hj13, hj15, hC⟩ ⟨callB_of 3 htl (wl_inL mw_377) rfl rfl rfl (htl _ mw_2) (htl _ mw_374) hd_yX12_hears ⟨(Nat.le_of_ble_eq_true rfl), (Nat.le_of_ble_eq_true rfl)⟩, htl _ mw_375, htl _ mw_376⟩ ht0 (by decide) tk_no rfl (fun q h => hge q h.1) rfl hl.1 rfl (Nat.le_of_ble_eq_true rfl) dL_law_413 ⟨by show cells + 0 ≤ 600000; omega, by show slots + 0 ≤ 7302250; omega⟩ (fun r1 H locs hpo1 hG hS hz9 hq9 => ?_)
  obtain ⟨hp1_0, hp1_1, hp1_2, hp1_3, hp1_4, hp1_5, hp1_6, hp1_7, hp1_8, hp1_9, hp1_10, hp1_11, hp1_12, hp1_13, hj13, hj15, hraw_0, hC⟩ := hpo1
  have hKI := jK.call hT hKI hq9 (by decide) (by decide) (by decide)
  have htp := htp.call hq9 (tk_w.no ht_ld26 (by decide))
  have hM := hM.frame (H1 := H) (fun q hq => hq9 q (hM.lt hq) (fun h => hsep q h.1 hq))
  refine lv_pop hx hb dL_law_416 rfl ?_
  refine lv_aload_n hx hb dL_law_417 rfl (lv_at hl 1 rfl) ?_
  refine lv_aload_n hx hb dL_law_418 rfl (lv_at hl 3 rfl) ?_
  refine lv_iload_n hx hb dL_law_419 rfl (lv_at hl 0 rfl) ?_
  refine lv_iconst (v := 1) hx hb dL_law_420 (by decide) ?_
  refine lv_iadd hx hb dL_law_421 ?_
  refine va_sld hx hb hX hbl hbA hS (lw_in hv hk1 (by omega) (by omega) (by omega) hL) dL_law_422 ?_
  refine fx_ti (v := x1) hx1 ?_
  refine lv_aload_n hx hb dL_law_423 rfl (lv_at hl 3 rfl) ?_
  refine lv_iload_n hx hb dL_law_424 rfl (lv_at hl 0 rfl) ?_
  refine lv_iconst (v := 2) hx hb dL_law_425 (by decide) ?_
  refine lv_iadd hx hb dL_law_426 ?_
  refine va_sld hx hb hX hbl hbA hS (lw_in hv hk2 (by omega) (by omega) (by omega) hL) dL_law_427 ?_
  refine fx_ti (v := x2) hx2 ?_
  refine lv_aload_n hx hb dL_law_428 rfl (lv_at hl 3 rfl) ?_
  refine lv_iload_n hx hb dL_law_429 rfl (lv_at hl 0 rfl) ?_
  refine lv_iconst (v := 3) hx hb dL_law_430 (by decide) ?_
  refine lv_iadd hx hb dL_law_431 ?_
  refine va_sld hx hb hX hbl hbA hS (lw_in hv hk3 (by omega) (by omega) (by omega) hL) dL_law_432 ?_
  refine fx_ti (v := x3) hx3 ?_
  refine mz_ViA (As := [.int x1, .int x2, .int x3]) (rest := []) ⟨hx, hb, hml, hown, htl⟩ hK hM hS (fun q h => hwge q h) (k_X13_hears_x l D cy ld ad am hD _ _ _ _ x1 x2 x3 _ hIF hIG hIR e30) ⟨callB_of 3 htl (wl_inL mw_385) rfl rfl rfl (htl _ mw_5) (htl _ mw_382) hd_yX13_hears ⟨(Nat.le_of_ble_eq_true rfl), (Nat.le_of_ble_eq_true rfl)⟩, htl _ mw_383, htl _ mw_384⟩ rfl hl.1 rfl (Nat.le_of_ble_eq_true rfl) dL_law_433 ⟨by show cells + 0 + 0 ≤ 600000; omega, by show slots + 0 + 0 ≤ 7302250; omega⟩ (fun r2 H locs F G R S hpo hM hS hz9 hq9 => ?_)
  have hall := fun (q : Nat) (hq : (t q).1 ≠ 0) => hq9 q (hG.lt hq) (hsep q hq)
  have hG := hG.frame (H1 := H) hall
  have hC := jC.all hT.1 hC hall
  have hKI := jK.all hT hKI hall
  have htp := htp.kept (hall _ (by rw [ht_ld26]; exact Nat.succ_ne_zero _))
  have hj13 := hj13.kept (hall _ (by rw [ht0]; exact Nat.succ_ne_zero _))
  have hj15 := hj15.kept (hall _ (by rw [ht0]; exact Nat.succ_ne_zero _))
  obtain ⟨hIF, hIG, hIR, hfr9, hrr9, hgr9, hp2_0, hp2_1, hp2_2, hp2_3, hp2_4, hp2_5, hp2_6, hp2_7, hp2_8, hp2_9, hp2_10, hp2_11, hp2_12, hp2_13⟩ := hpo
  have hv9 : r1.toInt = r2.toInt := by
    rcases hsp with h | h | h | h | h | h | h | h | h | h | h | h | h
    · exact jq1 (hp1_0 (h)) (hp2_0 (h))
    · exact jq1 (hp1_1 (h)) (hp2_1 (h))
    · exact jq1 (hp1_2 (h)) (hp2_2 (h))
    · exact jq1 (hp1_3 (h.1) (h.2.1) (h.2.2.1) (h.2.2.2)) (hp2_3 (h.1) (h.2.1) (h.2.2.1) (h.2.2.2))
    · exact jq1 (hp1_4 (h.1) (h.2.1) (h.2.2.1) (h.2.2.2)) (hp2_4 (h.1) (h.2.1) (h.2.2.1) (h.2.2.2))
    · exact jq1 (hp1_5 (h.1) (h.2.1) (h.2.2.1) (h.2.2.2)) (hp2_5 (h.1) (h.2.1) (h.2.2.1) (h.2.2.2))
    · exact jq1 (hp1_6 (h.1) (h.2.1) (h.2.2.1) (h.2.2.2)) (hp2_6 (h.1) (h.2.1) (h.2.2.1) (h.2.2.2))
    · have h1 := hp1_7 (h.1) (h.2.1) (h.2.2.1) (h.2.2.2.1) (h.2.2.2.2.1) (h.2.2.2.2.2.1) (h.2.2.2.2.2.2)
      have h2 := hp2_7 (h.1) (h.2.1) (h.2.2.1) (h.2.2.2.1) (h.2.2.2.2.1) (h.2.2.2.2.2.1) (h.2.2.2.2.2.2)
      have h3 := hraw_0 h1.1
      have h4 := (hp2_13.1 h2.1).1
      have h5 := (hR.2.2.1 x1.toInt.toNat (by omega)).1
      rw [h3, h4, h5]
    · exact jq1 (hp1_8 (h.1) (h.2.1) (h.2.2.1) (h.2.2.2)) (hp2_8 (h.1) (h.2.1) (h.2.2.1) (h.2.2.2))
    · exact jq1 (hp1_9 (h.1) (h.2.1) (h.2.2.1) (h.2.2.2)) (hp2_9 (h.1) (h.2.1) (h.2.2.1) (h.2.2.2))
    · exact jq1 (hp1_10 (h.1) (h.2.1) (h.2.2.1) (h.2.2.2)) (hp2_10 (h.1) (h.2.1) (h.2.2.1) (h.2.2.2))
    · exact jq1 (hp1_11 (h.1) (h.2.1) (h.2.2.1) (h.2.2.2)) (hp2_11 (h.1) (h.2.1) (h.2.2.1) (h.2.2.2))
    · have h1 := hp1_12 (h.1) (h.2.1) (h.2.2.1) (h.2.2.2.1) (h.2.2.2.2.1) (h.2.2.2.2.2.1) (h.2.2.2.2.2.2)
      have h2 := hp2_12 (h.1) (h.2.1) (h.2.2.1) (h.2.2.2.1) (h.2.2.2.2.1) (h.2.2.2.2.2.1) (h.2.2.2.2.2.2)
      have h3 := hraw_0 h1.1
      have h4 := (hp2_13.1 h2.1).1
      have h5 := (hR.2.2.1 x1.toInt.toNat (by omega)).1
      rw [h3, h4, h5]
  have hR := jR.hears hR hv9 rfl (fun h => by have h1 := hp1_13 h; omega) ⟨fun h => (hp2_13.1 h).2, hp2_13.2⟩
  have hKI : jK D ld (R 4) (R 5) H := by rw [hrr9 4 (by decide), hrr9 5 (by decide)]; exact hKI
  have eF13 := (hfr9 13 (by decide)).trans ey0
  have htr : ∀ j : Nat, (j : Int) < y0.toInt → ft j = R 12 j := by rw [hrr9 12 (by decide)]; exact htr
  have eF11 := (hfr9 11 (by decide)).trans ey5
  have hJ9 : lw_J D ld t a0 F R H := ⟨hT, ⟨_, _, _, _, _, _, _, _, _, _, hC, hR⟩, hKI, ⟨_, htp, by rw [eF13]; exact htr⟩, by rw [eF13]; exact hj13, by rw [eF11]; exact hj15⟩
  refine lv_pop hx hb dL_law_436 rfl ?_
  refine lv_goto (tgt := 1375) hx hb dL_law_437 (by decide) ?_
  refine W.widen (k := cells + 7) (n := slots + 1106) (by exact Nat.le_add_right _ _) (by exact Nat.le_add_right _ _) ?_
  exact kk t F G R S H locs ls ⟨ht0, hG, hge, hD, hM, ⟨hIF, hIG, hIR⟩, hsep, hwge⟩ hJ9 hS hl
set_option maxHeartbeats 8000000 in
set_option maxRecDepth 100000 in
theorem law_6 {p : Program} {l : Launch} {e : Env} {s : State} {m : MethodId} {below : List Frame} {meth : Method} {c : Code} {b L : Nat} {xs : Nat → Int32} (C0 : lw_At p s m meth c b L xs) (htl : ∀ w ∈ wsA, w.before #[Value.ref b] s = true) {D : va_G} {cy : Nat → ClassId} {ld ad : Nat → Nat} (hK : kk_K D cy ld s) (hZ0 : tk_Z ld (fun _ => (0, 0, 0)) s) {t : tk_T} {a0 am : Nat} {F : Nat → Int32} {G : Nat → Int64} {R : Nat → Nat → Int32} {S : Nat → Nat → Int64} {H : Heap} {locs : List Loc} (hI : lw_I D cy ld t ad a0 am s.heap.size F G R S H) (hJ : lw_J D ld t a0 F R H) (hS : va_S (fun q : Nat => s.heap.size ≤ q) s.heap H locs) (hS0 : s.heap.size ≤ H.size) (hL : L ≤ 3072) {v : Int32} {i : Int} (hv : v.toInt = i) (hi : 0 ≤ i) (hiL : i + 6 ≤ (L : Int)) {cells slots : Nat} (hc : cells + 7 ≤ 600000) (hs : slots + 1106 ≤ 7302250) (ls : Array Slot) (hl : lv_has ls 4 [(3, .int v), (2, .ref am), (1, .ref a0), (0, .ref b)]) (kk : ∀ (t : tk_T) (F : Nat → Int32) (G : Nat → Int64) (R : Nat → Nat → Int32) (S : Nat → Nat → Int64) (H : Heap) (locs : List Loc) (ls : Array Slot), lw_I D cy ld t ad a0 am s.heap.size F G R S H → lw_J D ld t a0 F R H → va_S (fun q : Nat => s.heap.size ≤ q) s.heap H locs → lv_has ls 4 [(3, .int v), (2, .ref am), (1, .ref a0), (0, .ref b)] → W p l e room_1 s m #[Value.ref b] below meth c H locs (cells + 7) (slots + 1106) (lw_Z below #[Value.ref b] s) (F0 m 1375 ls [])) : W p l e room_1 s m #[Value.ref b] below meth c H locs (cells) (slots) (lw_Z below #[Value.ref b] s) (F0 m 440 ls []) := by
  obtain ⟨hx, hb, hr, hml, hown, hts, hX, hbl, hlocks, hgv⟩ := id C0
  have hown : s.vm.findClass RL = some m.cls := hown
  have hbA : ¬ (fun q : Nat => s.heap.size ≤ q) b := Nat.not_le.mpr hbl
  obtain ⟨ht0, hG, hge, hD, hM, ⟨hIF, hIG, hIR⟩, hsep, hwge⟩ := hI
  have hZ := lw_Z0 hZ0 hge
  have hAZ : ∀ q : Nat, q < s.heap.size → (fun q : Nat => s.heap.size ≤ q) q → (t q).1 ≠ 0 := fun q h1 h2 => absurd h2 (Nat.not_le.mpr h1)
  obtain ⟨hT, ⟨n0, n1, n2, n3, fh, fs, fk, q1, q2, q3, hC, hR⟩, hKI, ⟨ft, htp, htr⟩, hj13, hj15⟩ := hJ
  obtain ⟨⟨e30, e31, e32, e33⟩, ⟨⟨b0, b1⟩, ⟨b2, b3⟩, ⟨b4, b5⟩, b6, b7⟩, -⟩ := id hR
  obtain ⟨y0, ey0⟩ : ∃ z : Int32, F 13 = z := ⟨_, rfl⟩
  have hy0 : 0 ≤ y0.toInt ∧ y0.toInt ≤ 400 := hIF.at ey0
  rw [ey0] at hj13 htr
  obtain ⟨y5, ey5⟩ : ∃ z : Int32, F 11 = z := ⟨_, rfl⟩
  rw [ey5] at hj15
  have hy5 := tk_rng y5
  obtain ⟨ht_ld20, ht_ld70, ht_ld80, ht_ld90, ht_ld100, ht_ld110, ht_ld120⟩ := id hT.1
  obtain ⟨ht_ld24, ht_ld76, ht_ld86, ht_ld96, ht_ld106, ht_ld116, ht_ld126⟩ := id hT.2.1
  obtain ⟨ht_ld25, ht_ld77, ht_ld87, ht_ld97, ht_ld107, ht_ld117, ht_ld127⟩ := id hT.2.2.1
  have ht_ld26 := hT.2.2.2.1
  have ht_ld49 := hT.2.2.2.2
  obtain ⟨x1, hx1⟩ : ∃ z, xs (v + 1 : Int32).toNatClampNeg = z := ⟨_, rfl⟩
  have hk1 : (1 : Int32).toInt = 1 := by decide
  obtain ⟨x2, hx2⟩ : ∃ z, xs (v + 2 : Int32).toNatClampNeg = z := ⟨_, rfl⟩
  have hk2 : (2 : Int32).toInt = 2 := by decide
  refine lv_aload_n hx hb dL_law_440 rfl (lv_at hl 2 rfl) ?_
  refine lv_aload_n hx hb dL_law_441 rfl (lv_at hl 3 rfl) ?_
  refine lv_iload_n hx hb dL_law_442 rfl (lv_at hl 0 rfl) ?_
  refine lv_iconst (v := 1) hx hb dL_law_443 (by decide) ?_
  refine lv_iadd hx hb dL_law_444 ?_
  refine va_sld hx hb hX hbl hbA hS (lw_in hv hk1 (by omega) (by omega) (by omega) hL) dL_law_445 ?_
  refine fx_ti (v := x1) hx1 ?_
  refine lv_aload_n hx hb dL_law_446 rfl (lv_at hl 3 rfl) ?_
  refine lv_iload_n hx hb dL_law_447 rfl (lv_at hl 0 rfl) ?_
  refine lv_iconst (v := 2) hx hb dL_law_448 (by decide) ?_
  refine lv_iadd hx hb dL_law_449 ?_
  refine va_sld hx hb hX hbl hbA hS (lw_in hv hk2 (by omega) (by omega) (by omega) hL) dL_law_450 ?_
  refine fx_ti (v := x2) hx2 ?_
  refine tk_ViA (As := [.int x1, .int x2]) (rest := []) (ci := 12) ⟨hx, hb, hml, hown, htl⟩ hK hG hZ hAZ hS (k_X12_cows_x l D cy ld t a0 x1 x2 y0 y5 ht0 (by omega) (by omega) (by omega) (by omega)) ⟨hj13, hj15⟩ ⟨callB_of 2 htl (wl_inL mw_389) rfl rfl rfl (htl _ mw_2) (htl _ mw_386) hd_yX12_cows ⟨(Nat.le_of_ble_eq_true rfl), (Nat.le_of_ble_eq_true rfl)⟩, htl _ mw_387, htl _ mw_388⟩ ht0 (by decide) tk_no rfl (fun q h => hge q h.1) rfl hl.1 rfl (Nat.le_of_ble_eq_true rfl) dL_law_451 ⟨by show cells + 0 ≤ 600000; omega, by show slots + 0 ≤ 7302250; omega⟩ (fun r1 H locs hpo1 hG hS hz9 hq9 => ?_)
  obtain ⟨hj13, hj15⟩ := hpo1
  have hC := jC.call hT.1 hC hq9 (by decide)
  have hKI := jK.call hT hKI hq9 (by decide) (by decide) (by decide)
  have htp := htp.call hq9 (tk_w.no ht_ld26 (by decide))
  have hM := hM.frame (H1 := H) (fun q hq => hq9 q (hM.lt hq) (fun h => hsep q h.1 hq))
  refine lv_pop hx hb dL_law_454 rfl ?_
  refine lv_aload_n hx hb dL_law_455 rfl (lv_at hl 1 rfl) ?_
  refine lv_aload_n hx hb dL_law_456 rfl (lv_at hl 3 rfl) ?_
  refine lv_iload_n hx hb dL_law_457 rfl (lv_at hl 0 rfl) ?_
  refine lv_iconst (v := 1) hx hb dL_law_458 (by decide) ?_
  refine lv_iadd hx hb dL_law_459 ?_
  refine va_sld hx hb hX hbl hbA hS (lw_in hv hk1 (by omega) (by omega) (by omega) hL) dL_law_460 ?_
  refine fx_ti (v := x1) hx1 ?_
  refine lv_aload_n hx hb dL_law_461 rfl (lv_at hl 3 rfl) ?_
  refine lv_iload_n hx hb dL_law_462 rfl (lv_at hl 0 rfl) ?_
  refine lv_iconst (v := 2) hx hb dL_law_463 (by decide) ?_
  refine lv_iadd hx hb dL_law_464 ?_
  refine va_sld hx hb hX hbl hbA hS (lw_in hv hk2 (by omega) (by omega) (by omega) hL) dL_law_465 ?_
  refine fx_ti (v := x2) hx2 ?_
  refine mz_ViA (As := [.int x1, .int x2]) (rest := []) ⟨hx, hb, hml, hown, htl⟩ hK hM hS (fun q h => hwge q h) (k_X13_cows l D cy ld ad am hD _ _ _ _ x1 x2 hIF hIG hIR) ⟨callB_of 2 htl (wl_inL mw_394) rfl rfl rfl (htl _ mw_5) (htl _ mw_391) hd_yX13_cows ⟨(Nat.le_of_ble_eq_true rfl), (Nat.le_of_ble_eq_true rfl)⟩, htl _ mw_392, htl _ mw_393⟩ rfl hl.1 rfl (Nat.le_of_ble_eq_true rfl) dL_law_466 ⟨by show cells + 0 + 0 ≤ 600000; omega, by show slots + 0 + 0 ≤ 7302250; omega⟩ (fun r2 H locs F G R S hpo hM hS hz9 hq9 => ?_)
  have hall := fun (q : Nat) (hq : (t q).1 ≠ 0) => hq9 q (hG.lt hq) (hsep q hq)
  have hG := hG.frame (H1 := H) hall
  have hC := jC.all hT.1 hC hall
  have hKI := jK.all hT hKI hall
  have htp := htp.kept (hall _ (by rw [ht_ld26]; exact Nat.succ_ne_zero _))
  have hj13 := hj13.kept (hall _ (by rw [ht0]; exact Nat.succ_ne_zero _))
  have hj15 := hj15.kept (hall _ (by rw [ht0]; exact Nat.succ_ne_zero _))
  obtain ⟨hIF, hIG, hIR, hfr9, hrr9, hgr9, hrel9⟩ := hpo
  have hR := hR.rel hrel9
  have hKI : jK D ld (R 4) (R 5) H := by rw [hrr9 4 (by decide), hrr9 5 (by decide)]; exact hKI
  have eF13 := (hfr9 13 (by decide)).trans ey0
  have htr : ∀ j : Nat, (j : Int) < y0.toInt → ft j = R 12 j := by rw [hrr9 12 (by decide)]; exact htr
  have eF11 := (hfr9 11 (by decide)).trans ey5
  have hJ9 : lw_J D ld t a0 F R H := ⟨hT, ⟨_, _, _, _, _, _, _, _, _, _, hC, hR⟩, hKI, ⟨_, htp, by rw [eF13]; exact htr⟩, by rw [eF13]; exact hj13, by rw [eF11]; exact hj15⟩
  refine lv_pop hx hb dL_law_469 rfl ?_
  refine lv_goto (tgt := 1375) hx hb dL_law_470 (by decide) ?_
  refine W.widen (k := cells + 7) (n := slots + 1106) (by exact Nat.le_add_right _ _) (by exact Nat.le_add_right _ _) ?_
  exact kk t F G R S H locs ls ⟨ht0, hG, hge, hD, hM, ⟨hIF, hIG, hIR⟩, hsep, hwge⟩ hJ9 hS hl
set_option maxHeartbeats 8000000 in
set_option maxRecDepth 100000 in
theorem law_7 {p : Program} {l : Launch} {e : Env} {s : State} {m : MethodId} {below : List Frame} {meth : Method} {c : Code} {b L : Nat} {xs : Nat → Int32} (C0 : lw_At p s m meth c b L xs) (htl : ∀ w ∈ wsA, w.before #[Value.ref b] s = true) {D : va_G} {cy : Nat → ClassId} {ld ad : Nat → Nat} (hK : kk_K D cy ld s) (hZ0 : tk_Z ld (fun _ => (0, 0, 0)) s) {t : tk_T} {a0 am : Nat} {F : Nat → Int32} {G : Nat → Int64} {R : Nat → Nat → Int32} {S : Nat → Nat → Int64} {H : Heap} {locs : List Loc} (hI : lw_I D cy ld t ad a0 am s.heap.size F G R S H) (hJ : lw_J D ld t a0 F R H) (hS : va_S (fun q : Nat => s.heap.size ≤ q) s.heap H locs) (hS0 : s.heap.size ≤ H.size) (hL : L ≤ 3072) {v : Int32} {i : Int} (hv : v.toInt = i) (hi : 0 ≤ i) (hiL : i + 6 ≤ (L : Int)) {cells slots : Nat} (hc : cells + 7 ≤ 600000) (hs : slots + 1106 ≤ 7302250) (ls : Array Slot) (hl : lv_has ls 4 [(3, .int v), (2, .ref am), (1, .ref a0), (0, .ref b)]) (kk : ∀ (t : tk_T) (F : Nat → Int32) (G : Nat → Int64) (R : Nat → Nat → Int32) (S : Nat → Nat → Int64) (H : Heap) (locs : List Loc) (ls : Array Slot), lw_I D cy ld t ad a0 am s.heap.size F G R S H → lw_J D ld t a0 F R H → va_S (fun q : Nat => s.heap.size ≤ q) s.heap H locs → lv_has ls 4 [(3, .int v), (2, .ref am), (1, .ref a0), (0, .ref b)] → W p l e room_1 s m #[Value.ref b] below meth c H locs (cells + 7) (slots + 1106) (lw_Z below #[Value.ref b] s) (F0 m 1375 ls [])) : W p l e room_1 s m #[Value.ref b] below meth c H locs (cells) (slots) (lw_Z below #[Value.ref b] s) (F0 m 473 ls []) := by
  obtain ⟨hx, hb, hr, hml, hown, hts, hX, hbl, hlocks, hgv⟩ := id C0
  have hown : s.vm.findClass RL = some m.cls := hown
  have hbA : ¬ (fun q : Nat => s.heap.size ≤ q) b := Nat.not_le.mpr hbl
  obtain ⟨ht0, hG, hge, hD, hM, ⟨hIF, hIG, hIR⟩, hsep, hwge⟩ := hI
  have hZ := lw_Z0 hZ0 hge
  have hAZ : ∀ q : Nat, q < s.heap.size → (fun q : Nat => s.heap.size ≤ q) q → (t q).1 ≠ 0 := fun q h1 h2 => absurd h2 (Nat.not_le.mpr h1)
  obtain ⟨hT, ⟨n0, n1, n2, n3, fh, fs, fk, q1, q2, q3, hC, hR⟩, hKI, ⟨ft, htp, htr⟩, hj13, hj15⟩ := hJ
  obtain ⟨⟨e30, e31, e32, e33⟩, ⟨⟨b0, b1⟩, ⟨b2, b3⟩, ⟨b4, b5⟩, b6, b7⟩, -⟩ := id hR
  obtain ⟨y0, ey0⟩ : ∃ z : Int32, F 13 = z := ⟨_, rfl⟩
  have hy0 : 0 ≤ y0.toInt ∧ y0.toInt ≤ 400 := hIF.at ey0
  rw [ey0] at hj13 htr
  obtain ⟨y5, ey5⟩ : ∃ z : Int32, F 11 = z := ⟨_, rfl⟩
  rw [ey5] at hj15
  have hy5 := tk_rng y5
  obtain ⟨ht_ld20, ht_ld70, ht_ld80, ht_ld90, ht_ld100, ht_ld110, ht_ld120⟩ := id hT.1
  obtain ⟨ht_ld24, ht_ld76, ht_ld86, ht_ld96, ht_ld106, ht_ld116, ht_ld126⟩ := id hT.2.1
  obtain ⟨ht_ld25, ht_ld77, ht_ld87, ht_ld97, ht_ld107, ht_ld117, ht_ld127⟩ := id hT.2.2.1
  have ht_ld26 := hT.2.2.2.1
  have ht_ld49 := hT.2.2.2.2
  obtain ⟨x1, hx1⟩ : ∃ z, xs (v + 1 : Int32).toNatClampNeg = z := ⟨_, rfl⟩
  have hk1 : (1 : Int32).toInt = 1 := by decide
  obtain ⟨x2, hx2⟩ : ∃ z, xs (v + 2 : Int32).toNatClampNeg = z := ⟨_, rfl⟩
  have hk2 : (2 : Int32).toInt = 2 := by decide
  refine lv_aload_n hx hb dL_law_473 rfl (lv_at hl 2 rfl) ?_
  refine lv_aload_n hx hb dL_law_474 rfl (lv_at hl 3 rfl) ?_
  refine lv_iload_n hx hb dL_law_475 rfl (lv_at hl 0 rfl) ?_
  refine lv_iconst (v := 1) hx hb dL_law_476 (by decide) ?_
  refine lv_iadd hx hb dL_law_477 ?_
  refine va_sld hx hb hX hbl hbA hS (lw_in hv hk1 (by omega) (by omega) (by omega) hL) dL_law_478 ?_
  refine fx_ti (v := x1) hx1 ?_
  refine lv_aload_n hx hb dL_law_479 rfl (lv_at hl 3 rfl) ?_
  refine lv_iload_n hx hb dL_law_480 rfl (lv_at hl 0 rfl) ?_
  refine lv_iconst (v := 2) hx hb dL_law_481 (by decide) ?_
  refine lv_iadd hx hb dL_law_482 ?_
  refine va_sld hx hb hX hbl hbA hS (lw_in hv hk2 (by omega) (by omega) (by omega) hL) dL_law_483 ?_
  refine fx_ti (v := x2) hx2 ?_
  refine tk_ViA (As := [.int x1, .int x2]) (rest := []) (ci := 12) ⟨hx, hb, hml, hown, htl⟩ hK hG hZ hAZ hS (k_X12_terms_x l D cy ld t a0 x1 x2 y0 y5 n0 n1 n2 n3 fh fs fk q1 q2 q3 ht0 ht_ld20 ht_ld70 ht_ld80 ht_ld90 ht_ld100 ht_ld110 ht_ld120 (by omega) (by omega) (by omega) (by omega) (by omega) (by omega) (by omega) (by omega) (by omega) (by omega) (by omega) (by omega)) ⟨hj13, hj15, hC⟩ ⟨callB_of 2 htl (wl_inL mw_403) rfl rfl rfl (htl _ mw_2) (htl _ mw_400) hd_yX12_terms ⟨(Nat.le_of_ble_eq_true rfl), (Nat.le_of_ble_eq_true rfl)⟩, htl _ mw_401, htl _ mw_402⟩ ht0 (by decide) tk_no rfl (fun q h => hge q h.1) rfl hl.1 rfl (Nat.le_of_ble_eq_true rfl) dL_law_484 ⟨by show cells + 0 ≤ 600000; omega, by show slots + 0 ≤ 7302250; omega⟩ (fun r1 H locs hpo1 hG hS hz9 hq9 => ?_)
  obtain ⟨hj13, hj15, hC⟩ := hpo1
  have hKI := jK.call hT hKI hq9 (by decide) (by decide) (by decide)
  have htp := htp.call hq9 (tk_w.no ht_ld26 (by decide))
  have hM := hM.frame (H1 := H) (fun q hq => hq9 q (hM.lt hq) (fun h => hsep q h.1 hq))
  refine lv_pop hx hb dL_law_487 rfl ?_
  refine lv_aload_n hx hb dL_law_488 rfl (lv_at hl 1 rfl) ?_
  refine lv_aload_n hx hb dL_law_489 rfl (lv_at hl 3 rfl) ?_
  refine lv_iload_n hx hb dL_law_490 rfl (lv_at hl 0 rfl) ?_
  refine lv_iconst (v := 1) hx hb dL_law_491 (by decide) ?_
  refine lv_iadd hx hb dL_law_492 ?_
  refine va_sld hx hb hX hbl hbA hS (lw_in hv hk1 (by omega) (by omega) (by omega) hL) dL_law_493 ?_
  refine fx_ti (v := x1) hx1 ?_
  refine lv_aload_n hx hb dL_law_494 rfl (lv_at hl 3 rfl) ?_
  refine lv_iload_n hx hb dL_law_495 rfl (lv_at hl 0 rfl) ?_
  refine lv_iconst (v := 2) hx hb dL_law_496 (by decide) ?_
  refine lv_iadd hx hb dL_law_497 ?_
  refine va_sld hx hb hX hbl hbA hS (lw_in hv hk2 (by omega) (by omega) (by omega) hL) dL_law_498 ?_
  refine fx_ti (v := x2) hx2 ?_
  refine mz_ViA (As := [.int x1, .int x2]) (rest := []) ⟨hx, hb, hml, hown, htl⟩ hK hM hS (fun q h => hwge q h) (k_X13_terms l D cy ld ad am hD _ _ _ _ x1 x2 hIF hIG hIR) ⟨callB_of 2 htl (wl_inL mw_417) rfl rfl rfl (htl _ mw_5) (htl _ mw_414) hd_yX13_terms ⟨(Nat.le_of_ble_eq_true rfl), (Nat.le_of_ble_eq_true rfl)⟩, htl _ mw_415, htl _ mw_416⟩ rfl hl.1 rfl (Nat.le_of_ble_eq_true rfl) dL_law_499 ⟨by show cells + 0 + 0 ≤ 600000; omega, by show slots + 0 + 0 ≤ 7302250; omega⟩ (fun r2 H locs F G R S hpo hM hS hz9 hq9 => ?_)
  have hall := fun (q : Nat) (hq : (t q).1 ≠ 0) => hq9 q (hG.lt hq) (hsep q hq)
  have hG := hG.frame (H1 := H) hall
  have hC := jC.all hT.1 hC hall
  have hKI := jK.all hT hKI hall
  have htp := htp.kept (hall _ (by rw [ht_ld26]; exact Nat.succ_ne_zero _))
  have hj13 := hj13.kept (hall _ (by rw [ht0]; exact Nat.succ_ne_zero _))
  have hj15 := hj15.kept (hall _ (by rw [ht0]; exact Nat.succ_ne_zero _))
  obtain ⟨hIF, hIG, hIR, hfr9, hrr9, hgr9, hrel9⟩ := hpo
  have hR := hR.rel hrel9
  have hKI : jK D ld (R 4) (R 5) H := by rw [hrr9 4 (by decide), hrr9 5 (by decide)]; exact hKI
  have eF13 := (hfr9 13 (by decide)).trans ey0
  have htr : ∀ j : Nat, (j : Int) < y0.toInt → ft j = R 12 j := by rw [hrr9 12 (by decide)]; exact htr
  have eF11 := (hfr9 11 (by decide)).trans ey5
  have hJ9 : lw_J D ld t a0 F R H := ⟨hT, ⟨_, _, _, _, _, _, _, _, _, _, hC, hR⟩, hKI, ⟨_, htp, by rw [eF13]; exact htr⟩, by rw [eF13]; exact hj13, by rw [eF11]; exact hj15⟩
  refine lv_pop hx hb dL_law_502 rfl ?_
  refine lv_goto (tgt := 1375) hx hb dL_law_503 (by decide) ?_
  refine W.widen (k := cells + 7) (n := slots + 1106) (by exact Nat.le_add_right _ _) (by exact Nat.le_add_right _ _) ?_
  exact kk t F G R S H locs ls ⟨ht0, hG, hge, hD, hM, ⟨hIF, hIG, hIR⟩, hsep, hwge⟩ hJ9 hS hl
set_option maxHeartbeats 8000000 in
set_option maxRecDepth 100000 in
theorem law_8 {p : Program} {l : Launch} {e : Env} {s : State} {m : MethodId} {below : List Frame} {meth : Method} {c : Code} {b L : Nat} {xs : Nat → Int32} (C0 : lw_At p s m meth c b L xs) (htl : ∀ w ∈ wsA, w.before #[Value.ref b] s = true) {D : va_G} {cy : Nat → ClassId} {ld ad : Nat → Nat} (hK : kk_K D cy ld s) (hZ0 : tk_Z ld (fun _ => (0, 0, 0)) s) {t : tk_T} {a0 am : Nat} {F : Nat → Int32} {G : Nat → Int64} {R : Nat → Nat → Int32} {S : Nat → Nat → Int64} {H : Heap} {locs : List Loc} (hI : lw_I D cy ld t ad a0 am s.heap.size F G R S H) (hJ : lw_J D ld t a0 F R H) (hS : va_S (fun q : Nat => s.heap.size ≤ q) s.heap H locs) (hS0 : s.heap.size ≤ H.size) (hL : L ≤ 3072) {v : Int32} {i : Int} (hv : v.toInt = i) (hi : 0 ≤ i) (hiL : i + 6 ≤ (L : Int)) {cells slots : Nat} (hc : cells + 7 ≤ 600000) (hs : slots + 1106 ≤ 7302250) (ls : Array Slot) (hl : lv_has ls 4 [(3, .int v), (2, .ref am), (1, .ref a0), (0, .ref b)]) (kk : ∀ (t : tk_T) (F : Nat → Int32) (G : Nat → Int64) (R : Nat → Nat → Int32) (S : Nat → Nat → Int64) (H : Heap) (locs : List Loc) (ls : Array Slot), lw_I D cy ld t ad a0 am s.heap.size F G R S H → lw_J D ld t a0 F R H → va_S (fun q : Nat => s.heap.size ≤ q) s.heap H locs → lv_has ls 4 [(3, .int v), (2, .ref am), (1, .ref a0), (0, .ref b)] → W p l e room_1 s m #[Value.ref b] below meth c H locs (cells + 7) (slots + 1106) (lw_Z below #[Value.ref b] s) (F0 m 1375 ls [])) : W p l e room_1 s m #[Value.ref b] below meth c H locs (cells) (slots) (lw_Z below #[Value.ref b] s) (F0 m 506 ls []) := by
  obtain ⟨hx, hb, hr, hml, hown, hts, hX, hbl, hlocks, hgv⟩ := id C0
  have hown : s.vm.findClass RL = some m.cls := hown
  have hbA : ¬ (fun q : Nat => s.heap.size ≤ q) b := Nat.not_le.mpr hbl
  obtain ⟨ht0, hG, hge, hD, hM, ⟨hIF, hIG, hIR⟩, hsep, hwge⟩ := hI
  have hZ := lw_Z0 hZ0 hge
  have hAZ : ∀ q : Nat, q < s.heap.size → (fun q : Nat => s.heap.size ≤ q) q → (t q).1 ≠ 0 := fun q h1 h2 => absurd h2 (Nat.not_le.mpr h1)
  obtain ⟨hT, ⟨n0, n1, n2, n3, fh, fs, fk, q1, q2, q3, hC, hR⟩, hKI, ⟨ft, htp, htr⟩, hj13, hj15⟩ := hJ
  obtain ⟨⟨e30, e31, e32, e33⟩, ⟨⟨b0, b1⟩, ⟨b2, b3⟩, ⟨b4, b5⟩, b6, b7⟩, -⟩ := id hR
  obtain ⟨y0, ey0⟩ : ∃ z : Int32, F 13 = z := ⟨_, rfl⟩
  have hy0 : 0 ≤ y0.toInt ∧ y0.toInt ≤ 400 := hIF.at ey0
  rw [ey0] at hj13 htr
  obtain ⟨y5, ey5⟩ : ∃ z : Int32, F 11 = z := ⟨_, rfl⟩
  rw [ey5] at hj15
  have hy5 := tk_rng y5
  obtain ⟨ht_ld20, ht_ld70, ht_ld80, ht_ld90, ht_ld100, ht_ld110, ht_ld120⟩ := id hT.1
  obtain ⟨ht_ld24, ht_ld76, ht_ld86, ht_ld96, ht_ld106, ht_ld116, ht_ld126⟩ := id hT.2.1
  obtain ⟨ht_ld25, ht_ld77, ht_ld87, ht_ld97, ht_ld107, ht_ld117, ht_ld127⟩ := id hT.2.2.1
  have ht_ld26 := hT.2.2.2.1
  have ht_ld49 := hT.2.2.2.2
  obtain ⟨x1, hx1⟩ : ∃ z, xs (v + 1 : Int32).toNatClampNeg = z := ⟨_, rfl⟩
  have hk1 : (1 : Int32).toInt = 1 := by decide
  obtain ⟨x2, hx2⟩ : ∃ z, xs (v + 2 : Int32).toNatClampNeg = z := ⟨_, rfl⟩
  have hk2 : (2 : Int32).toInt = 2 := by decide
  obtain ⟨x3, hx3⟩ : ∃ z, xs (v + 3 : Int32).toNatClampNeg = z := ⟨_, rfl⟩
  have hk3 : (3 : Int32).toInt = 3 := by decide
  obtain ⟨x4, hx4⟩ : ∃ z, xs (v + 4 : Int32).toNatClampNeg = z := ⟨_, rfl⟩
  have hk4 : (4 : Int32).toInt = 4 := by decide
  obtain ⟨x5, hx5⟩ : ∃ z, xs (v + 5 : Int32).toNatClampNeg = z := ⟨_, rfl⟩
  have hk5 : (5 : Int32).toInt = 5 := by decide
  have hsp : 381 ≤ y0.toInt ∨ y0.toInt ≤ 380 := by omega
  refine lv_aload_n hx hb dL_law_506 rfl (lv_at hl 2 rfl) ?_
  refine lv_aload_n hx hb dL_law_507 rfl (lv_at hl 3 rfl) ?_
  refine lv_iload_n hx hb dL_law_508 rfl (lv_at hl 0 rfl) ?_
  refine lv_iconst (v := 1) hx hb dL_law_509 (by decide) ?_
  refine lv_iadd hx hb dL_law_510 ?_
  refine va_sld hx hb hX hbl hbA hS (lw_in hv hk1 (by omega) (by omega) (by omega) hL) dL_law_511 ?_
  refine fx_ti (v := x1) hx1 ?_
  refine lv_aload_n hx hb dL_law_512 rfl (lv_at hl 3 rfl) ?_
  refine lv_iload_n hx hb dL_law_513 rfl (lv_at hl 0 rfl) ?_
  refine lv_iconst (v := 2) hx hb dL_law_514 (by decide) ?_
  refine lv_iadd hx hb dL_law_515 ?_
  refine va_sld hx hb hX hbl hbA hS (lw_in hv hk2 (by omega) (by omega) (by omega) hL) dL_law_516 ?_
  refine fx_ti (v := x2) hx2 ?_
  refine lv_aload_n hx hb dL_law_517 rfl (lv_at hl 3 rfl) ?_
  refine lv_iload_n hx hb dL_law_518 rfl (lv_at hl 0 rfl) ?_
  refine lv_iconst (v := 3) hx hb dL_law_519 (by decide) ?_
  refine lv_iadd hx hb dL_law_520 ?_
  refine va_sld hx hb hX hbl hbA hS (lw_in hv hk3 (by omega) (by omega) (by omega) hL) dL_law_521 ?_
  refine fx_ti (v := x3) hx3 ?_
  refine lv_aload_n hx hb dL_law_522 rfl (lv_at hl 3 rfl) ?_
  refine lv_iload_n hx hb dL_law_523 rfl (lv_at hl 0 rfl) ?_
  refine lv_iconst (v := 4) hx hb dL_law_524 (by decide) ?_
  refine lv_iadd hx hb dL_law_525 ?_
  refine va_sld hx hb hX hbl hbA hS (lw_in hv hk4 (by omega) (by omega) (by omega) hL) dL_law_526 ?_
  refine fx_ti (v := x4) hx4 ?_
  refine lv_aload_n hx hb dL_law_527 rfl (lv_at hl 3 rfl) ?_
  refine lv_iload_n hx hb dL_law_528 rfl (lv_at hl 0 rfl) ?_
  refine lv_iconst (v := 5) hx hb dL_law_529 (by decide) ?_
  refine lv_iadd hx hb dL_law_530 ?_
  refine va_sld hx hb hX hbl hbA hS (lw_in hv hk5 (by omega) (by omega) (by omega) hL) dL_law_531 ?_
  refine fx_ti (v := x5) hx5 ?_
  refine tk_ViA (As := [.int x1, .int x2, .int x3, .int x4, .int x5]) (rest := []) (ci := 12) ⟨hx, hb, hml, hown, htl⟩ hK hG hZ hAZ hS (k_X12_feed_x l D cy ld t a0 x1 x2 x3 x4 x5 y0 y5 ft ht0 ht_ld26 (by omega) (by omega) (by omega) (by omega)) ⟨hj13, hj15, htp⟩ ⟨callB_of 5 htl (wl_inL mw_421) rfl rfl rfl (htl _ mw_2) (htl _ mw_418) hd_yX12_feed ⟨(Nat.le_of_ble_eq_true rfl), (Nat.le_of_ble_eq_true rfl)⟩, htl _ mw_419, htl _ mw_420⟩ ht0 (by decide) tk_no rfl (fun q h => hge q h.1) rfl hl.1 rfl (Nat.le_of_ble_eq_true rfl) dL_law_532 ⟨by show cells + 0 ≤ 600000; omega, by show slots + 0 ≤ 7302250; omega⟩ (fun r1 H locs hpo1 hG hS hz9 hq9 => ?_)
  obtain ⟨hp1_0, hp1_1, hj15, ⟨y1, hj13, hy1_0, hy1_1⟩, htp⟩ := hpo1
  have hC := jC.call hT.1 hC hq9 (by decide)
  have hKI := jK.call hT hKI hq9 (by decide) (by decide) (by decide)
  have hM := hM.frame (H1 := H) (fun q hq => hq9 q (hM.lt hq) (fun h => hsep q h.1 hq))
  refine lv_pop hx hb dL_law_535 rfl ?_
  refine lv_aload_n hx hb dL_law_536 rfl (lv_at hl 1 rfl) ?_
  refine lv_aload_n hx hb dL_law_537 rfl (lv_at hl 3 rfl) ?_
  refine lv_iload_n hx hb dL_law_538 rfl (lv_at hl 0 rfl) ?_
  refine lv_iconst (v := 1) hx hb dL_law_539 (by decide) ?_
  refine lv_iadd hx hb dL_law_540 ?_
  refine va_sld hx hb hX hbl hbA hS (lw_in hv hk1 (by omega) (by omega) (by omega) hL) dL_law_541 ?_
  refine fx_ti (v := x1) hx1 ?_
  refine lv_aload_n hx hb dL_law_542 rfl (lv_at hl 3 rfl) ?_
  refine lv_iload_n hx hb dL_law_543 rfl (lv_at hl 0 rfl) ?_
  refine lv_iconst (v := 2) hx hb dL_law_544 (by decide) ?_
  refine lv_iadd hx hb dL_law_545 ?_
  refine va_sld hx hb hX hbl hbA hS (lw_in hv hk2 (by omega) (by omega) (by omega) hL) dL_law_546 ?_
  refine fx_ti (v := x2) hx2 ?_
  refine lv_aload_n hx hb dL_law_547 rfl (lv_at hl 3 rfl) ?_
  refine lv_iload_n hx hb dL_law_548 rfl (lv_at hl 0 rfl) ?_
  refine lv_iconst (v := 3) hx hb dL_law_549 (by decide) ?_
  refine lv_iadd hx hb dL_law_550 ?_
  refine va_sld hx hb hX hbl hbA hS (lw_in hv hk3 (by omega) (by omega) (by omega) hL) dL_law_551 ?_
  refine fx_ti (v := x3) hx3 ?_
  refine lv_aload_n hx hb dL_law_552 rfl (lv_at hl 3 rfl) ?_
  refine lv_iload_n hx hb dL_law_553 rfl (lv_at hl 0 rfl) ?_
  refine lv_iconst (v := 4) hx hb dL_law_554 (by decide) ?_
  refine lv_iadd hx hb dL_law_555 ?_
  refine va_sld hx hb hX hbl hbA hS (lw_in hv hk4 (by omega) (by omega) (by omega) hL) dL_law_556 ?_
  refine fx_ti (v := x4) hx4 ?_
  refine lv_aload_n hx hb dL_law_557 rfl (lv_at hl 3 rfl) ?_
  refine lv_iload_n hx hb dL_law_558 rfl (lv_at hl 0 rfl) ?_
  refine lv_iconst (v := 5) hx hb dL_law_559 (by decide) ?_
  refine lv_iadd hx hb dL_law_560 ?_
  refine va_sld hx hb hX hbl hbA hS (lw_in hv hk5 (by omega) (by omega) (by omega) hL) dL_law_561 ?_
  refine fx_ti (v := x5) hx5 ?_
  refine mz_ViA (As := [.int x1, .int x2, .int x3, .int x4, .int x5]) (rest := []) ⟨hx, hb, hml, hown, htl⟩ hK hM hS (fun q h => hwge q h) (k_X13_feed_x l D cy ld ad am hD _ _ _ _ x1 x2 x3 x4 x5 _ hIF hIG hIR ey0) ⟨callB_of 5 htl (wl_inL mw_430) rfl rfl rfl (htl _ mw_5) (htl _ mw_427) hd_yX13_feed ⟨(Nat.le_of_ble_eq_true rfl), (Nat.le_of_ble_eq_true rfl)⟩, htl _ mw_428, htl _ mw_429⟩ rfl hl.1 rfl (Nat.le_of_ble_eq_true rfl) dL_law_562 ⟨by show cells + 0 + 0 ≤ 600000; omega, by show slots + 0 + 0 ≤ 7302250; omega⟩ (fun r2 H locs F G R S hpo hM hS hz9 hq9 => ?_)
  have hall := fun (q : Nat) (hq : (t q).1 ≠ 0) => hq9 q (hG.lt hq) (hsep q hq)
  have hG := hG.frame (H1 := H) hall
  have hC := jC.all hT.1 hC hall
  have hKI := jK.all hT hKI hall
  have htp := htp.kept (hall _ (by rw [ht_ld26]; exact Nat.succ_ne_zero _))
  have hj13 := hj13.kept (hall _ (by rw [ht0]; exact Nat.succ_ne_zero _))
  have hj15 := hj15.kept (hall _ (by rw [ht0]; exact Nat.succ_ne_zero _))
  obtain ⟨hIF, hIG, hIR, hfr9, hrr9, hgr9, hp2_0, hp2_1, hp2_2⟩ := hpo
  have hR := hR.rel (rK3.refl (hrr9 3 (by decide)))
  have hKI : jK D ld (R 4) (R 5) H := by rw [hrr9 4 (by decide), hrr9 5 (by decide)]; exact hKI
  have hy1 : (F 13).toInt = y1.toInt := by
    rcases hsp with h | h
    · have h1 := hy1_0 h; have h2 := (hp2_0 h).2; omega
    · have h1 := hy1_1 h; have h2 := (hp2_1 h).2; omega
  have eF13 : F 13 = y1 := (fi_eq rfl rfl).mpr hy1
  have htr : ∀ j : Nat, (j : Int) < y1.toInt → (cif r1 (jpf (jpf (jpf (jpf (jpf ft y0.toInt.toNat x1) (y0.toInt.toNat + 4) x2) (y0.toInt.toNat + 8) x3) (y0.toInt.toNat + 12) x4) (y0.toInt.toNat + 16) x5) ft) j = R 12 j := fun j hj => by
    rcases hsp with h | h
    · have h1 := hy1_0 h; have h2 := hp1_0 h; rw [cif_f (by omega), hp2_2.2 h]; exact htr j (by omega)
    · have h1 := hy1_1 h; have h2 := hp1_1 h; rw [cif_t (by omega), hp2_2.1 h]
      exact jpf_jpr (jpf_jpr (jpf_jpr (jpf_jpr (jpf_jpr (n := y0.toInt.toNat) (m := y0.toInt.toNat + 4) (fun j hj => htr j (by omega)) rfl) (m := y0.toInt.toNat + 8) rfl) (m := y0.toInt.toNat + 12) rfl) (m := y0.toInt.toNat + 16) rfl) (m := y0.toInt.toNat + 20) rfl j (by omega)
  have eF11 := (hfr9 11 (by decide)).trans ey5
  have hv9 : r1.toInt = r2.toInt := by
    rcases hsp with h | h
    · have h1 := hp1_0 h; have h2 := (hp2_0 h).1; omega
    · have h1 := hp1_1 h; have h2 := (hp2_1 h).1; omega
  have hJ9 : lw_J D ld t a0 F R H := ⟨hT, ⟨_, _, _, _, _, _, _, _, _, _, hC, hR⟩, hKI, ⟨_, htp, by rw [eF13]; exact htr⟩, by rw [eF13]; exact hj13, by rw [eF11]; exact hj15⟩
  refine lv_pop hx hb dL_law_565 rfl ?_
  refine lv_goto (tgt := 1375) hx hb dL_law_566 (by decide) ?_
  refine W.widen (k := cells + 7) (n := slots + 1106) (by exact Nat.le_add_right _ _) (by exact Nat.le_add_right _ _) ?_
  exact kk t F G R S H locs ls ⟨ht0, hG, hge, hD, hM, ⟨hIF, hIG, hIR⟩, hsep, hwge⟩ hJ9 hS hl
set_option maxHeartbeats 8000000 in
set_option maxRecDepth 100000 in
theorem law_9 {p : Program} {l : Launch} {e : Env} {s : State} {m : MethodId} {below : List Frame} {meth : Method} {c : Code} {b L : Nat} {xs : Nat → Int32} (C0 : lw_At p s m meth c b L xs) (htl : ∀ w ∈ wsA, w.before #[Value.ref b] s = true) {D : va_G} {cy : Nat → ClassId} {ld ad : Nat → Nat} (hK : kk_K D cy ld s) (hZ0 : tk_Z ld (fun _ => (0, 0, 0)) s) {t : tk_T} {a0 am : Nat} {F : Nat → Int32} {G : Nat → Int64} {R : Nat → Nat → Int32} {S : Nat → Nat → Int64} {H : Heap} {locs : List Loc} (hI : lw_I D cy ld t ad a0 am s.heap.size F G R S H) (hJ : lw_J D ld t a0 F R H) (hS : va_S (fun q : Nat => s.heap.size ≤ q) s.heap H locs) (hS0 : s.heap.size ≤ H.size) (hL : L ≤ 3072) {v : Int32} {i : Int} (hv : v.toInt = i) (hi : 0 ≤ i) (hiL : i + 6 ≤ (L : Int)) {cells slots : Nat} (hc : cells + 7 ≤ 600000) (hs : slots + 1106 ≤ 7302250) (ls : Array Slot) (hl : lv_has ls 4 [(3, .int v), (2, .ref am), (1, .ref a0), (0, .ref b)]) (kk : ∀ (t : tk_T) (F : Nat → Int32) (G : Nat → Int64) (R : Nat → Nat → Int32) (S : Nat → Nat → Int64) (H : Heap) (locs : List Loc) (ls : Array Slot), lw_I D cy ld t ad a0 am s.heap.size F G R S H → lw_J D ld t a0 F R H → va_S (fun q : Nat => s.heap.size ≤ q) s.heap H locs → lv_has ls 4 [(3, .int v), (2, .ref am), (1, .ref a0), (0, .ref b)] → W p l e room_1 s m #[Value.ref b] below meth c H locs (cells + 7) (slots + 1106) (lw_Z below #[Value.ref b] s) (F0 m 1375 ls [])) : W p l e room_1 s m #[Value.ref b] below meth c H locs (cells) (slots) (lw_Z below #[Value.ref b] s) (F0 m 569 ls []) := by
  obtain ⟨hx, hb, hr, hml, hown, hts, hX, hbl, hlocks, hgv⟩ := id C0
  have hown : s.vm.findClass RL = some m.cls := hown
  have hbA : ¬ (fun q : Nat => s.heap.size ≤ q) b := Nat.not_le.mpr hbl
  obtain ⟨ht0, hG, hge, hD, hM, ⟨hIF, hIG, hIR⟩, hsep, hwge⟩ := hI
  have hZ := lw_Z0 hZ0 hge
  have hAZ : ∀ q : Nat, q < s.heap.size → (fun q : Nat => s.heap.size ≤ q) q → (t q).1 ≠ 0 := fun q h1 h2 => absurd h2 (Nat.not_le.mpr h1)
  obtain ⟨hT, ⟨n0, n1, n2, n3, fh, fs, fk, q1, q2, q3, hC, hR⟩, hKI, ⟨ft, htp, htr⟩, hj13, hj15⟩ := hJ
  obtain ⟨⟨e30, e31, e32, e33⟩, ⟨⟨b0, b1⟩, ⟨b2, b3⟩, ⟨b4, b5⟩, b6, b7⟩, -⟩ := id hR
  obtain ⟨y0, ey0⟩ : ∃ z : Int32, F 13 = z := ⟨_, rfl⟩
  have hy0 : 0 ≤ y0.toInt ∧ y0.toInt ≤ 400 := hIF.at ey0
  rw [ey0] at hj13 htr
  obtain ⟨y5, ey5⟩ : ∃ z : Int32, F 11 = z := ⟨_, rfl⟩
  rw [ey5] at hj15
  have hy5 := tk_rng y5
  obtain ⟨ht_ld20, ht_ld70, ht_ld80, ht_ld90, ht_ld100, ht_ld110, ht_ld120⟩ := id hT.1
  obtain ⟨ht_ld24, ht_ld76, ht_ld86, ht_ld96, ht_ld106, ht_ld116, ht_ld126⟩ := id hT.2.1
  obtain ⟨ht_ld25, ht_ld77, ht_ld87, ht_ld97, ht_ld107, ht_ld117, ht_ld127⟩ := id hT.2.2.1
  have ht_ld26 := hT.2.2.2.1
  have ht_ld49 := hT.2.2.2.2
  obtain ⟨x1, hx1⟩ : ∃ z, xs (v + 1 : Int32).toNatClampNeg = z := ⟨_, rfl⟩
  have hk1 : (1 : Int32).toInt = 1 := by decide
  have hsp : (0 ≤ x1.toInt ∧ x1.toInt ≤ y0.toInt) ∨ x1.toInt ≤ -1 ∨ y0.toInt + 1 ≤ x1.toInt := by omega
  refine lv_aload_n hx hb dL_law_569 rfl (lv_at hl 2 rfl) ?_
  refine lv_aload_n hx hb dL_law_570 rfl (lv_at hl 3 rfl) ?_
  refine lv_iload_n hx hb dL_law_571 rfl (lv_at hl 0 rfl) ?_
  refine lv_iconst (v := 1) hx hb dL_law_572 (by decide) ?_
  refine lv_iadd hx hb dL_law_573 ?_
  refine va_sld hx hb hX hbl hbA hS (lw_in hv hk1 (by omega) (by omega) (by omega) hL) dL_law_574 ?_
  refine fx_ti (v := x1) hx1 ?_
  refine tk_ViA (As := [.int x1]) (rest := []) (ci := 12) ⟨hx, hb, hml, hown, htl⟩ hK hG hZ hAZ hS (k_X12_end_x l D cy ld t a0 x1 y0 y5 ht0 (by omega) (by omega) (by omega) (by omega)) ⟨hj13, hj15⟩ ⟨callB_of 1 htl (wl_inL mw_439) rfl rfl rfl (htl _ mw_2) (htl _ mw_436) hd_yX12_end ⟨(Nat.le_of_ble_eq_true rfl), (Nat.le_of_ble_eq_true rfl)⟩, htl _ mw_437, htl _ mw_438⟩ ht0 (by decide) tk_no rfl (fun q h => hge q h.1) rfl hl.1 rfl (Nat.le_of_ble_eq_true rfl) dL_law_575 ⟨by show cells + 0 ≤ 600000; omega, by show slots + 0 ≤ 7302250; omega⟩ (fun r1 H locs hpo1 hG hS hz9 hq9 => ?_)
  obtain ⟨hp1_0, hp1_1, hp1_2, hj15, ⟨y1, hj13, hy1_0, hy1_1, hy1_2⟩⟩ := hpo1
  have hC := jC.call hT.1 hC hq9 (by decide)
  have hKI := jK.call hT hKI hq9 (by decide) (by decide) (by decide)
  have htp := htp.call hq9 (tk_w.no ht_ld26 (by decide))
  have hM := hM.frame (H1 := H) (fun q hq => hq9 q (hM.lt hq) (fun h => hsep q h.1 hq))
  refine lv_pop hx hb dL_law_578 rfl ?_
  refine lv_aload_n hx hb dL_law_579 rfl (lv_at hl 1 rfl) ?_
  refine lv_aload_n hx hb dL_law_580 rfl (lv_at hl 3 rfl) ?_
  refine lv_iload_n hx hb dL_law_581 rfl (lv_at hl 0 rfl) ?_
  refine lv_iconst (v := 1) hx hb dL_law_582 (by decide) ?_
  refine lv_iadd hx hb dL_law_583 ?_
  refine va_sld hx hb hX hbl hbA hS (lw_in hv hk1 (by omega) (by omega) (by omega) hL) dL_law_584 ?_
  refine fx_ti (v := x1) hx1 ?_
  refine mz_ViA (As := [.int x1]) (rest := []) ⟨hx, hb, hml, hown, htl⟩ hK hM hS (fun q h => hwge q h) (k_X13_end_x l D cy ld ad am hD _ _ _ _ x1 _ hIF hIG hIR ey0) ⟨callB_of 1 htl (wl_inL mw_443) rfl rfl rfl (htl _ mw_5) (htl _ mw_440) hd_yX13_end ⟨(Nat.le_of_ble_eq_true rfl), (Nat.le_of_ble_eq_true rfl)⟩, htl _ mw_441, htl _ mw_442⟩ rfl hl.1 rfl (Nat.le_of_ble_eq_true rfl) dL_law_585 ⟨by show cells + 0 + 0 ≤ 600000; omega, by show slots + 0 + 0 ≤ 7302250; omega⟩ (fun r2 H locs F G R S hpo hM hS hz9 hq9 => ?_)
  have hall := fun (q : Nat) (hq : (t q).1 ≠ 0) => hq9 q (hG.lt hq) (hsep q hq)
  have hG := hG.frame (H1 := H) hall
  have hC := jC.all hT.1 hC hall
  have hKI := jK.all hT hKI hall
  have htp := htp.kept (hall _ (by rw [ht_ld26]; exact Nat.succ_ne_zero _))
  have hj13 := hj13.kept (hall _ (by rw [ht0]; exact Nat.succ_ne_zero _))
  have hj15 := hj15.kept (hall _ (by rw [ht0]; exact Nat.succ_ne_zero _))
  obtain ⟨hIF, hIG, hIR, hfr9, hrr9, hgr9, hp2_0, hp2_1, hp2_2⟩ := hpo
  have hR := hR.rel (rK3.refl (hrr9 3 (by decide)))
  have hKI : jK D ld (R 4) (R 5) H := by rw [hrr9 4 (by decide), hrr9 5 (by decide)]; exact hKI
  have hy1 : (F 13).toInt = y1.toInt ∧ y1.toInt ≤ y0.toInt := by
    rcases hsp with h | h | h
    · have h1 := hy1_0 h.1 (by omega); have h2 := (hp2_0 h.1 (by omega)).2; omega
    · have h1 := hy1_1 h; have h2 := (hp2_1 h).2; omega
    · have h1 := hy1_2 (by omega); have h2 := (hp2_2 (by omega)).2; omega
  have eF13 : F 13 = y1 := (fi_eq rfl rfl).mpr hy1.1
  have htr : ∀ j : Nat, (j : Int) < y1.toInt → ft j = R 12 j := fun j hj => by rw [hrr9 12 (by decide)]; exact htr j (by omega)
  have eF11 := (hfr9 11 (by decide)).trans ey5
  have hv9 : r1.toInt = r2.toInt := by
    rcases hsp with h | h | h
    · have h1 := hp1_0 h.1 (by omega); have h2 := (hp2_0 h.1 (by omega)).1; omega
    · have h1 := hp1_1 h; have h2 := (hp2_1 h).1; omega
    · have h1 := hp1_2 (by omega); have h2 := (hp2_2 (by omega)).1; omega
  have hJ9 : lw_J D ld t a0 F R H := ⟨hT, ⟨_, _, _, _, _, _, _, _, _, _, hC, hR⟩, hKI, ⟨_, htp, by rw [eF13]; exact htr⟩, by rw [eF13]; exact hj13, by rw [eF11]; exact hj15⟩
  refine lv_pop hx hb dL_law_588 rfl ?_
  refine lv_goto (tgt := 1375) hx hb dL_law_589 (by decide) ?_
  refine W.widen (k := cells + 7) (n := slots + 1106) (by exact Nat.le_add_right _ _) (by exact Nat.le_add_right _ _) ?_
  exact kk t F G R S H locs ls ⟨ht0, hG, hge, hD, hM, ⟨hIF, hIG, hIR⟩, hsep, hwge⟩ hJ9 hS hl
set_option maxHeartbeats 8000000 in
set_option maxRecDepth 100000 in
theorem law_10 {p : Program} {l : Launch} {e : Env} {s : State} {m : MethodId} {below : List Frame} {meth : Method} {c : Code} {b L : Nat} {xs : Nat → Int32} (C0 : lw_At p s m meth c b L xs) (htl : ∀ w ∈ wsA, w.before #[Value.ref b] s = true) {D : va_G} {cy : Nat → ClassId} {ld ad : Nat → Nat} (hK : kk_K D cy ld s) (hZ0 : tk_Z ld (fun _ => (0, 0, 0)) s) {t : tk_T} {a0 am : Nat} {F : Nat → Int32} {G : Nat → Int64} {R : Nat → Nat → Int32} {S : Nat → Nat → Int64} {H : Heap} {locs : List Loc} (hI : lw_I D cy ld t ad a0 am s.heap.size F G R S H) (hJ : lw_J D ld t a0 F R H) (hS : va_S (fun q : Nat => s.heap.size ≤ q) s.heap H locs) (hS0 : s.heap.size ≤ H.size) (hL : L ≤ 3072) {v : Int32} {i : Int} (hv : v.toInt = i) (hi : 0 ≤ i) (hiL : i + 6 ≤ (L : Int)) {cells slots : Nat} (hc : cells + 7 ≤ 600000) (hs : slots + 1106 ≤ 7302250) (ls : Array Slot) (hl : lv_has ls 4 [(3, .int v), (2, .ref am), (1, .ref a0), (0, .ref b)]) (kk : ∀ (t : tk_T) (F : Nat → Int32) (G : Nat → Int64) (R : Nat → Nat → Int32) (S : Nat → Nat → Int64) (H : Heap) (locs : List Loc) (ls : Array Slot), lw_I D cy ld t ad a0 am s.heap.size F G R S H → lw_J D ld t a0 F R H → va_S (fun q : Nat => s.heap.size ≤ q) s.heap H locs → lv_has ls 4 [(3, .int v), (2, .ref am), (1, .ref a0), (0, .ref b)] → W p l e room_1 s m #[Value.ref b] below meth c H locs (cells + 7) (slots + 1106) (lw_Z below #[Value.ref b] s) (F0 m 1375 ls [])) : W p l e room_1 s m #[Value.ref b] below meth c H locs (cells) (slots) (lw_Z below #[Value.ref b] s) (F0 m 592 ls []) := by
  obtain ⟨hx, hb, hr, hml, hown, hts, hX, hbl, hlocks, hgv⟩ := id C0
  have hown : s.vm.findClass RL = some m.cls := hown
  have hbA : ¬ (fun q : Nat => s.heap.size ≤ q) b := Nat.not_le.mpr hbl
  obtain ⟨ht0, hG, hge, hD, hM, ⟨hIF, hIG, hIR⟩, hsep, hwge⟩ := hI
  have hZ := lw_Z0 hZ0 hge
  have hAZ : ∀ q : Nat, q < s.heap.size → (fun q : Nat => s.heap.size ≤ q) q → (t q).1 ≠ 0 := fun q h1 h2 => absurd h2 (Nat.not_le.mpr h1)
  obtain ⟨hT, ⟨n0, n1, n2, n3, fh, fs, fk, q1, q2, q3, hC, hR⟩, hKI, ⟨ft, htp, htr⟩, hj13, hj15⟩ := hJ
  obtain ⟨⟨e30, e31, e32, e33⟩, ⟨⟨b0, b1⟩, ⟨b2, b3⟩, ⟨b4, b5⟩, b6, b7⟩, -⟩ := id hR
  obtain ⟨y0, ey0⟩ : ∃ z : Int32, F 13 = z := ⟨_, rfl⟩
  have hy0 : 0 ≤ y0.toInt ∧ y0.toInt ≤ 400 := hIF.at ey0
  rw [ey0] at hj13 htr
  obtain ⟨y5, ey5⟩ : ∃ z : Int32, F 11 = z := ⟨_, rfl⟩
  rw [ey5] at hj15
  have hy5 := tk_rng y5
  obtain ⟨ht_ld20, ht_ld70, ht_ld80, ht_ld90, ht_ld100, ht_ld110, ht_ld120⟩ := id hT.1
  obtain ⟨ht_ld24, ht_ld76, ht_ld86, ht_ld96, ht_ld106, ht_ld116, ht_ld126⟩ := id hT.2.1
  obtain ⟨ht_ld25, ht_ld77, ht_ld87, ht_ld97, ht_ld107, ht_ld117, ht_ld127⟩ := id hT.2.2.1
  have ht_ld26 := hT.2.2.2.1
  have ht_ld49 := hT.2.2.2.2
  rcases (show y0.toInt ≤ 0 ∨ 1 ≤ y0.toInt by omega) with hs1 | hs1
  · refine lv_aload_n hx hb dL_law_592 rfl (lv_at hl 2 rfl) ?_
    refine tk_ViA (As := []) (rest := []) (ci := 12) ⟨hx, hb, hml, hown, htl⟩ hK hG hZ hAZ hS (k_X12_row_x l D cy ld t a0 y0 y5 n0 n1 n2 n3 fh fs fk q1 q2 q3 ft ht0 ht_ld20 ht_ld70 ht_ld80 ht_ld90 ht_ld100 ht_ld110 ht_ld120 ht_ld26 (by omega) (by omega) (by omega) (by omega) (by omega) (by omega) (by omega) (by omega) (by omega) (by omega) (by omega) (by omega)) ⟨hj13, hj15, hC, htp⟩ ⟨callB_of 0 htl (wl_inL mw_447) rfl rfl rfl (htl _ mw_2) (htl _ mw_444) hd_yX12_row ⟨(Nat.le_of_ble_eq_true rfl), (Nat.le_of_ble_eq_true rfl)⟩, htl _ mw_445, htl _ mw_446⟩ ht0 (by decide) tk_no rfl (fun q h => hge q h.1) rfl hl.1 rfl (Nat.le_of_ble_eq_true rfl) dL_law_593 ⟨by show cells + 0 ≤ 600000; omega, by show slots + 0 ≤ 7302250; omega⟩ (fun r1 H locs hpo1 hG hS hz9 hq9 => ?_)
    obtain ⟨hp1_0, hp1_1, ⟨y1, hj13, hy1_0⟩, hraw_0, hraw_1, htp⟩ := hpo1
    obtain ⟨hC, hj15⟩ := hraw_0 hs1
    clear hraw_0 hraw_1
    have hKI := jK.call hT hKI hq9 (by decide) (by decide) (by decide)
    have hM := hM.frame (H1 := H) (fun q hq => hq9 q (hM.lt hq) (fun h => hsep q h.1 hq))
    refine lv_pop hx hb dL_law_596 rfl ?_
    refine lv_aload_n hx hb dL_law_597 rfl (lv_at hl 1 rfl) ?_
    refine mz_ViA (As := []) (rest := []) ⟨hx, hb, hml, hown, htl⟩ hK hM hS (fun q h => hwge q h) (k_X13_row_x l D cy ld ad am hD _ _ _ _ _ _ hIF hIG hIR ey0 ey5) ⟨callB_of 0 htl (wl_inL mw_452) rfl rfl rfl (htl _ mw_5) (htl _ mw_449) hd_yX13_row ⟨(Nat.le_of_ble_eq_true rfl), (Nat.le_of_ble_eq_true rfl)⟩, htl _ mw_450, htl _ mw_451⟩ rfl hl.1 rfl (Nat.le_of_ble_eq_true rfl) dL_law_598 ⟨by show cells + 0 + 0 ≤ 600000; omega, by show slots + 0 + 0 ≤ 7302250; omega⟩ (fun r2 H locs F G R S hpo hM hS hz9 hq9 => ?_)
    have hall := fun (q : Nat) (hq : (t q).1 ≠ 0) => hq9 q (hG.lt hq) (hsep q hq)
    have hG := hG.frame (H1 := H) hall
    have hC := jC.all hT.1 hC hall
    have hKI := jK.all hT hKI hall
    have htp := htp.kept (hall _ (by rw [ht_ld26]; exact Nat.succ_ne_zero _))
    have hj13 := hj13.kept (hall _ (by rw [ht0]; exact Nat.succ_ne_zero _))
    have hj15 := hj15.kept (hall _ (by rw [ht0]; exact Nat.succ_ne_zero _))
    obtain ⟨hIF, hIG, hIR, hfr9, hrr9, hgr9, hp2_0, hp2_1, hp2_2, hp2_3⟩ := hpo
    have hR := hR.rel (rK3.refl (hp2_3.1 hs1).1)
    have hv9 : r1.toInt = r2.toInt := jq1 (hp1_0 hs1) (hp2_1 hs1)
    have hKI : jK D ld (R 4) (R 5) H := by rw [hrr9 4 (by decide), hrr9 5 (by decide)]; exact hKI
    have hz0 : (0 : Int32).toInt = 0 := by decide
    have eF13 : F 13 = y1 := (fi_eq rfl rfl).mpr (by have h1 := hp2_0; omega)
    have htr : ∀ j : Nat, (j : Int) < (y1 : Int32).toInt → ft j = R 12 j := fun j hj => absurd hj (by omega)
    have eF11 := (hp2_3.1 hs1).2
    have hJ9 : lw_J D ld t a0 F R H := ⟨hT, ⟨_, _, _, _, _, _, _, _, _, _, hC, hR⟩, hKI, ⟨_, htp, by rw [eF13]; exact htr⟩, by rw [eF13]; exact hj13, by rw [eF11]; exact hj15⟩
    refine lv_pop hx hb dL_law_601 rfl ?_
    refine lv_goto (tgt := 1375) hx hb dL_law_602 (by decide) ?_
    refine W.widen (k := cells + 7) (n := slots + 1106) (by exact Nat.le_add_right _ _) (by exact Nat.le_add_right _ _) ?_
    exact kk t F G R S H locs ls ⟨ht0, hG, hge, hD, hM, ⟨hIF, hIG, hIR⟩, hsep, hwge⟩ hJ9 hS hl
  · refine lv_aload_n hx hb dL_law_592 rfl (lv_at hl 2 rfl) ?_
    refine tk_ViA (As := []) (rest := []) (ci := 12) ⟨hx, hb, hml, hown, htl⟩ hK hG hZ hAZ hS (k_X12_row_x l D cy ld t a0 y0 y5 n0 n1 n2 n3 fh fs fk q1 q2 q3 ft ht0 ht_ld20 ht_ld70 ht_ld80 ht_ld90 ht_ld100 ht_ld110 ht_ld120 ht_ld26 (by omega) (by omega) (by omega) (by omega) (by omega) (by omega) (by omega) (by omega) (by omega) (by omega) (by omega) (by omega)) ⟨hj13, hj15, hC, htp⟩ ⟨callB_of 0 htl (wl_inL mw_447) rfl rfl rfl (htl _ mw_2) (htl _ mw_444) hd_yX12_row ⟨(Nat.le_of_ble_eq_true rfl), (Nat.le_of_ble_eq_true rfl)⟩, htl _ mw_445, htl _ mw_446⟩ ht0 (by decide) tk_no rfl (fun q h => hge q h.1) rfl hl.1 rfl (Nat.le_of_ble_eq_true rfl) dL_law_593 ⟨by show cells + 0 ≤ 600000; omega, by show slots + 0 ≤ 7302250; omega⟩ (fun r1 H locs hpo1 hG hS hz9 hq9 => ?_)
    obtain ⟨hp1_0, hp1_1, ⟨y1, hj13, hy1_0⟩, hraw_0, hraw_1, htp⟩ := hpo1
    obtain ⟨n9, c9, f9, f8, hC, hj15, hw9r⟩ := hraw_1 hs1
    clear hraw_0 hraw_1
    have hKI := jK.call hT hKI hq9 (by decide) (by decide) (by decide)
    have hM := hM.frame (H1 := H) (fun q hq => hq9 q (hM.lt hq) (fun h => hsep q h.1 hq))
    refine lv_pop hx hb dL_law_596 rfl ?_
    refine lv_aload_n hx hb dL_law_597 rfl (lv_at hl 1 rfl) ?_
    refine mz_ViA (As := []) (rest := []) ⟨hx, hb, hml, hown, htl⟩ hK hM hS (fun q h => hwge q h) (k_X13_row_x l D cy ld ad am hD _ _ _ _ _ _ hIF hIG hIR ey0 ey5) ⟨callB_of 0 htl (wl_inL mw_452) rfl rfl rfl (htl _ mw_5) (htl _ mw_449) hd_yX13_row ⟨(Nat.le_of_ble_eq_true rfl), (Nat.le_of_ble_eq_true rfl)⟩, htl _ mw_450, htl _ mw_451⟩ rfl hl.1 rfl (Nat.le_of_ble_eq_true rfl) dL_law_598 ⟨by show cells + 0 + 0 ≤ 600000; omega, by show slots + 0 + 0 ≤ 7302250; omega⟩ (fun r2 H locs F G R S hpo hM hS hz9 hq9 => ?_)
    have hall := fun (q : Nat) (hq : (t q).1 ≠ 0) => hq9 q (hG.lt hq) (hsep q hq)
    have hG := hG.frame (H1 := H) hall
    have hC := jC.all hT.1 hC hall
    have hKI := jK.all hT hKI hall
    have htp := htp.kept (hall _ (by rw [ht_ld26]; exact Nat.succ_ne_zero _))
    have hj13 := hj13.kept (hall _ (by rw [ht0]; exact Nat.succ_ne_zero _))
    have hj15 := hj15.kept (hall _ (by rw [ht0]; exact Nat.succ_ne_zero _))
    obtain ⟨hIF, hIG, hIR, hfr9, hrr9, hgr9, hp2_0, hp2_1, hp2_2, hp2_3⟩ := hpo
    obtain ⟨hz1, hv9, hz3, hz4, hz5, hz6, hz7⟩ := jrow_end htr e31 b2 b3 hR.2.2.2.1 hw9r (hp2_3.2 hs1)
    have hR := hR.row hz1 hz4 hz5 hz6 hz7
    have hKI : jK D ld (R 4) (R 5) H := by rw [hrr9 4 (by decide), hrr9 5 (by decide)]; exact hKI
    have hz0 : (0 : Int32).toInt = 0 := by decide
    have eF13 : F 13 = y1 := (fi_eq rfl rfl).mpr (by have h1 := hp2_0; omega)
    have htr : ∀ j : Nat, (j : Int) < (y1 : Int32).toInt → ft j = R 12 j := fun j hj => absurd hj (by omega)
    have eF11 : F 11 = c9 := (fi_eq rfl rfl).mpr hz3.symm
    have hJ9 : lw_J D ld t a0 F R H := ⟨hT, ⟨_, _, _, _, _, _, _, _, _, _, hC, hR⟩, hKI, ⟨_, htp, by rw [eF13]; exact htr⟩, by rw [eF13]; exact hj13, by rw [eF11]; exact hj15⟩
    refine lv_pop hx hb dL_law_601 rfl ?_
    refine lv_goto (tgt := 1375) hx hb dL_law_602 (by decide) ?_
    refine W.widen (k := cells + 7) (n := slots + 1106) (by exact Nat.le_add_right _ _) (by exact Nat.le_add_right _ _) ?_
    exact kk t F G R S H locs ls ⟨ht0, hG, hge, hD, hM, ⟨hIF, hIG, hIR⟩, hsep, hwge⟩ hJ9 hS hl
set_option maxHeartbeats 8000000 in
set_option maxRecDepth 100000 in
theorem law_11 {p : Program} {l : Launch} {e : Env} {s : State} {m : MethodId} {below : List Frame} {meth : Method} {c : Code} {b L : Nat} {xs : Nat → Int32} (C0 : lw_At p s m meth c b L xs) (htl : ∀ w ∈ wsA, w.before #[Value.ref b] s = true) {D : va_G} {cy : Nat → ClassId} {ld ad : Nat → Nat} (hK : kk_K D cy ld s) (hZ0 : tk_Z ld (fun _ => (0, 0, 0)) s) {t : tk_T} {a0 am : Nat} {F : Nat → Int32} {G : Nat → Int64} {R : Nat → Nat → Int32} {S : Nat → Nat → Int64} {H : Heap} {locs : List Loc} (hI : lw_I D cy ld t ad a0 am s.heap.size F G R S H) (hJ : lw_J D ld t a0 F R H) (hS : va_S (fun q : Nat => s.heap.size ≤ q) s.heap H locs) (hS0 : s.heap.size ≤ H.size) (hL : L ≤ 3072) {v : Int32} {i : Int} (hv : v.toInt = i) (hi : 0 ≤ i) (hiL : i + 6 ≤ (L : Int)) {cells slots : Nat} (hc : cells + 7 ≤ 600000) (hs : slots + 1106 ≤ 7302250) (ls : Array Slot) (hl : lv_has ls 4 [(3, .int v), (2, .ref am), (1, .ref a0), (0, .ref b)]) (kk : ∀ (t : tk_T) (F : Nat → Int32) (G : Nat → Int64) (R : Nat → Nat → Int32) (S : Nat → Nat → Int64) (H : Heap) (locs : List Loc) (ls : Array Slot), lw_I D cy ld t ad a0 am s.heap.size F G R S H → lw_J D ld t a0 F R H → va_S (fun q : Nat => s.heap.size ≤ q) s.heap H locs → lv_has ls 4 [(3, .int v), (2, .ref am), (1, .ref a0), (0, .ref b)] → W p l e room_1 s m #[Value.ref b] below meth c H locs (cells + 7) (slots + 1106) (lw_Z below #[Value.ref b] s) (F0 m 1375 ls [])) : W p l e room_1 s m #[Value.ref b] below meth c H locs (cells) (slots) (lw_Z below #[Value.ref b] s) (F0 m 605 ls []) := by
  obtain ⟨hx, hb, hr, hml, hown, hts, hX, hbl, hlocks, hgv⟩ := id C0
  have hown : s.vm.findClass RL = some m.cls := hown
  have hbA : ¬ (fun q : Nat => s.heap.size ≤ q) b := Nat.not_le.mpr hbl
  obtain ⟨ht0, hG, hge, hD, hM, ⟨hIF, hIG, hIR⟩, hsep, hwge⟩ := hI
  have hZ := lw_Z0 hZ0 hge
  have hAZ : ∀ q : Nat, q < s.heap.size → (fun q : Nat => s.heap.size ≤ q) q → (t q).1 ≠ 0 := fun q h1 h2 => absurd h2 (Nat.not_le.mpr h1)
  obtain ⟨hT, ⟨n0, n1, n2, n3, fh, fs, fk, q1, q2, q3, hC, hR⟩, hKI, ⟨ft, htp, htr⟩, hj13, hj15⟩ := hJ
  obtain ⟨⟨e30, e31, e32, e33⟩, ⟨⟨b0, b1⟩, ⟨b2, b3⟩, ⟨b4, b5⟩, b6, b7⟩, -⟩ := id hR
  obtain ⟨y0, ey0⟩ : ∃ z : Int32, F 13 = z := ⟨_, rfl⟩
  have hy0 : 0 ≤ y0.toInt ∧ y0.toInt ≤ 400 := hIF.at ey0
  rw [ey0] at hj13 htr
  obtain ⟨y5, ey5⟩ : ∃ z : Int32, F 11 = z := ⟨_, rfl⟩
  rw [ey5] at hj15
  have hy5 := tk_rng y5
  obtain ⟨ht_ld20, ht_ld70, ht_ld80, ht_ld90, ht_ld100, ht_ld110, ht_ld120⟩ := id hT.1
  obtain ⟨ht_ld24, ht_ld76, ht_ld86, ht_ld96, ht_ld106, ht_ld116, ht_ld126⟩ := id hT.2.1
  obtain ⟨ht_ld25, ht_ld77, ht_ld87, ht_ld97, ht_ld107, ht_ld117, ht_ld127⟩ := id hT.2.2.1
  have ht_ld26 := hT.2.2.2.1
  have ht_ld49 := hT.2.2.2.2
  refine lv_aload_n hx hb dL_law_605 rfl (lv_at hl 2 rfl) ?_
  refine tk_ViA (As := []) (rest := []) (ci := 12) ⟨hx, hb, hml, hown, htl⟩ hK hG hZ hAZ hS (k_X12_coughs_x l D cy ld t a0 y5 ht0 (by omega) (by omega)) hj15 ⟨callB_of 0 htl (wl_inL mw_457) rfl rfl rfl (htl _ mw_2) (htl _ mw_454) hd_yX12_coughs ⟨(Nat.le_of_ble_eq_true rfl), (Nat.le_of_ble_eq_true rfl)⟩, htl _ mw_455, htl _ mw_456⟩ ht0 (by decide) tk_no rfl (fun q h => hge q h.1) rfl hl.1 rfl (Nat.le_of_ble_eq_true rfl) dL_law_606 ⟨by show cells + 0 ≤ 600000; omega, by show slots + 0 ≤ 7302250; omega⟩ (fun r1 H locs hpo1 hG hS hz9 hq9 => ?_)
  have hp1_0 := hpo1
  have hC := jC.call hT.1 hC hq9 (by decide)
  have hKI := jK.call hT hKI hq9 (by decide) (by decide) (by decide)
  have htp := htp.call hq9 (tk_w.no ht_ld26 (by decide))
  have hj13 := hj13.call hq9 (tk_w.no ht0 (by decide))
  have hj15 := hj15.call hq9 (tk_w.no ht0 (by decide))
  have hM := hM.frame (H1 := H) (fun q hq => hq9 q (hM.lt hq) (fun h => hsep q h.1 hq))
  refine lv_pop hx hb dL_law_609 rfl ?_
  refine lv_aload_n hx hb dL_law_610 rfl (lv_at hl 1 rfl) ?_
  refine mz_ViA (As := []) (rest := []) ⟨hx, hb, hml, hown, htl⟩ hK hM hS (fun q h => hwge q h) (k_X13_coughs_x l D cy ld ad am hD _ _ _ _ _ hIF hIG hIR ey5) ⟨callB_of 0 htl (wl_inL mw_461) rfl rfl rfl (htl _ mw_5) (htl _ mw_458) hd_yX13_coughs ⟨(Nat.le_of_ble_eq_true rfl), (Nat.le_of_ble_eq_true rfl)⟩, htl _ mw_459, htl _ mw_460⟩ rfl hl.1 rfl (Nat.le_of_ble_eq_true rfl) dL_law_611 ⟨by show cells + 0 + 0 ≤ 600000; omega, by show slots + 0 + 0 ≤ 7302250; omega⟩ (fun r2 H locs F G R S hpo hM hS hz9 hq9 => ?_)
  have hall := fun (q : Nat) (hq : (t q).1 ≠ 0) => hq9 q (hG.lt hq) (hsep q hq)
  have hG := hG.frame (H1 := H) hall
  have hC := jC.all hT.1 hC hall
  have hKI := jK.all hT hKI hall
  have htp := htp.kept (hall _ (by rw [ht_ld26]; exact Nat.succ_ne_zero _))
  have hj13 := hj13.kept (hall _ (by rw [ht0]; exact Nat.succ_ne_zero _))
  have hj15 := hj15.kept (hall _ (by rw [ht0]; exact Nat.succ_ne_zero _))
  obtain ⟨hIF, hIG, hIR, hfr9, hrr9, hgr9, hp2_0⟩ := hpo
  have hv9 : r1.toInt = r2.toInt := jq2 (c := (-1) * y5.toInt) (hp1_0) (hp2_0)
  have hR := hR.rel (rK3.refl (hrr9 3 (by decide)))
  have hKI : jK D ld (R 4) (R 5) H := by rw [hrr9 4 (by decide), hrr9 5 (by decide)]; exact hKI
  have eF13 := (hfr9 13 (by decide)).trans ey0
  have htr : ∀ j : Nat, (j : Int) < y0.toInt → ft j = R 12 j := by rw [hrr9 12 (by decide)]; exact htr
  have eF11 := (hfr9 11 (by decide)).trans ey5
  have hJ9 : lw_J D ld t a0 F R H := ⟨hT, ⟨_, _, _, _, _, _, _, _, _, _, hC, hR⟩, hKI, ⟨_, htp, by rw [eF13]; exact htr⟩, by rw [eF13]; exact hj13, by rw [eF11]; exact hj15⟩
  refine lv_pop hx hb dL_law_614 rfl ?_
  refine lv_goto (tgt := 1375) hx hb dL_law_615 (by decide) ?_
  refine W.widen (k := cells + 7) (n := slots + 1106) (by exact Nat.le_add_right _ _) (by exact Nat.le_add_right _ _) ?_
  exact kk t F G R S H locs ls ⟨ht0, hG, hge, hD, hM, ⟨hIF, hIG, hIR⟩, hsep, hwge⟩ hJ9 hS hl
set_option maxHeartbeats 8000000 in
set_option maxRecDepth 100000 in
theorem law_12 {p : Program} {l : Launch} {e : Env} {s : State} {m : MethodId} {below : List Frame} {meth : Method} {c : Code} {b L : Nat} {xs : Nat → Int32} (C0 : lw_At p s m meth c b L xs) (htl : ∀ w ∈ wsA, w.before #[Value.ref b] s = true) {D : va_G} {cy : Nat → ClassId} {ld ad : Nat → Nat} (hK : kk_K D cy ld s) (hZ0 : tk_Z ld (fun _ => (0, 0, 0)) s) {t : tk_T} {a0 am : Nat} {F : Nat → Int32} {G : Nat → Int64} {R : Nat → Nat → Int32} {S : Nat → Nat → Int64} {H : Heap} {locs : List Loc} (hI : lw_I D cy ld t ad a0 am s.heap.size F G R S H) (hJ : lw_J D ld t a0 F R H) (hS : va_S (fun q : Nat => s.heap.size ≤ q) s.heap H locs) (hS0 : s.heap.size ≤ H.size) (hL : L ≤ 3072) {v : Int32} {i : Int} (hv : v.toInt = i) (hi : 0 ≤ i) (hiL : i + 6 ≤ (L : Int)) {cells slots : Nat} (hc : cells + 7 ≤ 600000) (hs : slots + 1106 ≤ 7302250) (ls : Array Slot) (hl : lv_has ls 4 [(3, .int v), (2, .ref am), (1, .ref a0), (0, .ref b)]) (kk : ∀ (t : tk_T) (F : Nat → Int32) (G : Nat → Int64) (R : Nat → Nat → Int32) (S : Nat → Nat → Int64) (H : Heap) (locs : List Loc) (ls : Array Slot), lw_I D cy ld t ad a0 am s.heap.size F G R S H → lw_J D ld t a0 F R H → va_S (fun q : Nat => s.heap.size ≤ q) s.heap H locs → lv_has ls 4 [(3, .int v), (2, .ref am), (1, .ref a0), (0, .ref b)] → W p l e room_1 s m #[Value.ref b] below meth c H locs (cells + 7) (slots + 1106) (lw_Z below #[Value.ref b] s) (F0 m 1375 ls [])) : W p l e room_1 s m #[Value.ref b] below meth c H locs (cells) (slots) (lw_Z below #[Value.ref b] s) (F0 m 618 ls []) := by
  obtain ⟨hx, hb, hr, hml, hown, hts, hX, hbl, hlocks, hgv⟩ := id C0
  have hown : s.vm.findClass RL = some m.cls := hown
  have hbA : ¬ (fun q : Nat => s.heap.size ≤ q) b := Nat.not_le.mpr hbl
  obtain ⟨ht0, hG, hge, hD, hM, ⟨hIF, hIG, hIR⟩, hsep, hwge⟩ := hI
  have hZ := lw_Z0 hZ0 hge
  have hAZ : ∀ q : Nat, q < s.heap.size → (fun q : Nat => s.heap.size ≤ q) q → (t q).1 ≠ 0 := fun q h1 h2 => absurd h2 (Nat.not_le.mpr h1)
  obtain ⟨hT, ⟨n0, n1, n2, n3, fh, fs, fk, q1, q2, q3, hC, hR⟩, hKI, ⟨ft, htp, htr⟩, hj13, hj15⟩ := hJ
  obtain ⟨⟨e30, e31, e32, e33⟩, ⟨⟨b0, b1⟩, ⟨b2, b3⟩, ⟨b4, b5⟩, b6, b7⟩, -⟩ := id hR
  obtain ⟨y0, ey0⟩ : ∃ z : Int32, F 13 = z := ⟨_, rfl⟩
  have hy0 : 0 ≤ y0.toInt ∧ y0.toInt ≤ 400 := hIF.at ey0
  rw [ey0] at hj13 htr
  obtain ⟨y5, ey5⟩ : ∃ z : Int32, F 11 = z := ⟨_, rfl⟩
  rw [ey5] at hj15
  have hy5 := tk_rng y5
  obtain ⟨ht_ld20, ht_ld70, ht_ld80, ht_ld90, ht_ld100, ht_ld110, ht_ld120⟩ := id hT.1
  obtain ⟨ht_ld24, ht_ld76, ht_ld86, ht_ld96, ht_ld106, ht_ld116, ht_ld126⟩ := id hT.2.1
  obtain ⟨ht_ld25, ht_ld77, ht_ld87, ht_ld97, ht_ld107, ht_ld117, ht_ld127⟩ := id hT.2.2.1
  have ht_ld26 := hT.2.2.2.1
  have ht_ld49 := hT.2.2.2.2
  refine lv_aload_n hx hb dL_law_618 rfl (lv_at hl 2 rfl) ?_
  refine tk_VgLP (rest := []) (ci := 12) ⟨hx, hb, hml, hown, htl⟩ hK hG hZ hAZ hS (k_X12_law_x l D cy ld t tk_okF0 _ a0 y0 y5 n0 n1 n2 n3 fh fs fk q1 q2 q3 ht0 ht_ld20 ht_ld70 ht_ld80 ht_ld90 ht_ld100 ht_ld110 ht_ld120 (by omega) (by omega) (by omega) (by omega) (by omega) (by omega) (by omega) (by omega) (by omega) (by omega) (by omega) (by omega)) ⟨hj13, hj15, hC⟩ ⟨callB_of 0 htl (wl_inL mw_465) rfl rfl rfl (htl _ mw_2) (htl _ mw_462) hd_yX12_law ⟨(Nat.le_of_ble_eq_true rfl), (Nat.le_of_ble_eq_true rfl)⟩, htl _ mw_463, htl _ mw_464⟩ ht0 (by decide) rfl (fun q h => h.elim (fun h => hge q h.1) (fun h => Nat.le_trans hS.1 h)) hl.1 rfl (Nat.le_of_ble_eq_true rfl) dL_law_619 ⟨by show cells + 7 ≤ 600000; omega, by show slots + 1106 ≤ 7302250; omega⟩ (fun r1 t H locs g1 hG hpo1 g4 hS hz9 hq9 => ?_)
  obtain ⟨hj13, hj15, hC⟩ := hpo1
  have hKI := jK.call hT hKI hq9 (by decide) (by decide) (by decide)
  have htp := htp.call hq9 (tk_w.no ht_ld26 (by decide))
  have hT := hT.ext g1
  have ht_ld26 := hT.2.2.2.1
  have ht_ld49 := hT.2.2.2.2
  have hsz := fun q hq => hM.lt (q := q) hq
  have hM := hM.frame (H1 := H) (fun q hq => hq9 q (hsz q hq) (fun h => hsep q h.1 hq))
  have ht0 := (g1 _ (by rw [ht0]; exact Nat.succ_ne_zero _)).trans ht0
  have hge : ∀ a : Nat, (t a).1 ≠ 0 → s.heap.size ≤ a := fun a h => (g4 a h).elim (fun h => hge a h) (fun h => Nat.le_trans hS0 h)
  have hsep : ∀ a : Nat, (t a).1 ≠ 0 → ¬ mz_W ad am a := fun a h => (g4 a h).elim (fun h => hsep a h) (fun h hw => absurd (hsz a hw) (Nat.not_lt.mpr h))
  refine lv_pop hx hb dL_law_622 rfl ?_
  refine lv_aload_n hx hb dL_law_623 rfl (lv_at hl 1 rfl) ?_
  refine mz_ViA (As := []) (rest := []) ⟨hx, hb, hml, hown, htl⟩ hK hM hS (fun q h => hwge q h) (k_X13_law l D cy ld ad am hD _ _ _ _ hIF hIG hIR) ⟨callB_of 0 htl (wl_inL mw_667) rfl rfl rfl (htl _ mw_5) (htl _ mw_664) hd_yX13_law ⟨(Nat.le_of_ble_eq_true rfl), (Nat.le_of_ble_eq_true rfl)⟩, htl _ mw_665, htl _ mw_666⟩ rfl hl.1 rfl (Nat.le_of_ble_eq_true rfl) dL_law_624 ⟨by show cells + 7 + 0 ≤ 600000; omega, by show slots + 1106 + 0 ≤ 7302250; omega⟩ (fun r2 H locs F G R S hpo hM hS hz9 hq9 => ?_)
  have hall := fun (q : Nat) (hq : (t q).1 ≠ 0) => hq9 q (hG.lt hq) (hsep q hq)
  have hG := hG.frame (H1 := H) hall
  have hC := jC.all hT.1 hC hall
  have hKI := jK.all hT hKI hall
  have htp := htp.kept (hall _ (by rw [ht_ld26]; exact Nat.succ_ne_zero _))
  have hj13 := hj13.kept (hall _ (by rw [ht0]; exact Nat.succ_ne_zero _))
  have hj15 := hj15.kept (hall _ (by rw [ht0]; exact Nat.succ_ne_zero _))
  obtain ⟨hIF, hIG, hIR, hfr9, hrr9, hgr9, hrel9, hp2_0, hp2_1, hp2_2⟩ := hpo
  have hR := hR.rel hrel9
  have hKI : jK D ld (R 4) (R 5) H := by rw [hrr9 4 (by decide), hrr9 5 (by decide)]; exact hKI
  have hz0 : (0 : Int32).toInt = 0 := by decide
  have eF13 : F 13 = 0 := (fi_eq rfl rfl).mpr (by have h1 := hp2_0; omega)
  have htr : ∀ j : Nat, (j : Int) < (0 : Int32).toInt → ft j = R 12 j := fun j hj => absurd hj (by omega)
  have eF11 := (hfr9 11 (by decide)).trans ey5
  have hJ9 : lw_J D ld t a0 F R H := ⟨hT, ⟨_, _, _, _, _, _, _, _, _, _, hC, hR⟩, hKI, ⟨_, htp, by rw [eF13]; exact htr⟩, by rw [eF13]; exact hj13, by rw [eF11]; exact hj15⟩
  refine lv_pop hx hb dL_law_627 rfl ?_
  refine lv_goto (tgt := 1375) hx hb dL_law_628 (by decide) ?_
  refine W.widen (k := cells + 7) (n := slots + 1106) (by exact Nat.le_refl _) (by exact Nat.le_refl _) ?_
  exact kk t F G R S H locs ls ⟨ht0, hG, hge, hD, hM, ⟨hIF, hIG, hIR⟩, hsep, hwge⟩ hJ9 hS hl
set_option maxHeartbeats 8000000 in
set_option maxRecDepth 100000 in
theorem law_13 {p : Program} {l : Launch} {e : Env} {s : State} {m : MethodId} {below : List Frame} {meth : Method} {c : Code} {b L : Nat} {xs : Nat → Int32} (C0 : lw_At p s m meth c b L xs) (htl : ∀ w ∈ wsA, w.before #[Value.ref b] s = true) {D : va_G} {cy : Nat → ClassId} {ld ad : Nat → Nat} (hK : kk_K D cy ld s) (hZ0 : tk_Z ld (fun _ => (0, 0, 0)) s) {t : tk_T} {a0 am : Nat} {F : Nat → Int32} {G : Nat → Int64} {R : Nat → Nat → Int32} {S : Nat → Nat → Int64} {H : Heap} {locs : List Loc} (hI : lw_I D cy ld t ad a0 am s.heap.size F G R S H) (hJ : lw_J D ld t a0 F R H) (hS : va_S (fun q : Nat => s.heap.size ≤ q) s.heap H locs) (hS0 : s.heap.size ≤ H.size) (hL : L ≤ 3072) {v : Int32} {i : Int} (hv : v.toInt = i) (hi : 0 ≤ i) (hiL : i + 6 ≤ (L : Int)) {cells slots : Nat} (hc : cells + 7 ≤ 600000) (hs : slots + 1106 ≤ 7302250) (ls : Array Slot) (hl : lv_has ls 4 [(3, .int v), (2, .ref am), (1, .ref a0), (0, .ref b)]) (kk : ∀ (t : tk_T) (F : Nat → Int32) (G : Nat → Int64) (R : Nat → Nat → Int32) (S : Nat → Nat → Int64) (H : Heap) (locs : List Loc) (ls : Array Slot), lw_I D cy ld t ad a0 am s.heap.size F G R S H → lw_J D ld t a0 F R H → va_S (fun q : Nat => s.heap.size ≤ q) s.heap H locs → lv_has ls 4 [(3, .int v), (2, .ref am), (1, .ref a0), (0, .ref b)] → W p l e room_1 s m #[Value.ref b] below meth c H locs (cells + 7) (slots + 1106) (lw_Z below #[Value.ref b] s) (F0 m 1375 ls [])) : W p l e room_1 s m #[Value.ref b] below meth c H locs (cells) (slots) (lw_Z below #[Value.ref b] s) (F0 m 631 ls []) := by
  obtain ⟨hx, hb, hr, hml, hown, hts, hX, hbl, hlocks, hgv⟩ := id C0
  have hown : s.vm.findClass RL = some m.cls := hown
  have hbA : ¬ (fun q : Nat => s.heap.size ≤ q) b := Nat.not_le.mpr hbl
  obtain ⟨ht0, hG, hge, hD, hM, ⟨hIF, hIG, hIR⟩, hsep, hwge⟩ := hI
  have hZ := lw_Z0 hZ0 hge
  have hAZ : ∀ q : Nat, q < s.heap.size → (fun q : Nat => s.heap.size ≤ q) q → (t q).1 ≠ 0 := fun q h1 h2 => absurd h2 (Nat.not_le.mpr h1)
  obtain ⟨hT, ⟨n0, n1, n2, n3, fh, fs, fk, q1, q2, q3, hC, hR⟩, hKI, ⟨ft, htp, htr⟩, hj13, hj15⟩ := hJ
  obtain ⟨⟨e30, e31, e32, e33⟩, ⟨⟨b0, b1⟩, ⟨b2, b3⟩, ⟨b4, b5⟩, b6, b7⟩, -⟩ := id hR
  obtain ⟨y0, ey0⟩ : ∃ z : Int32, F 13 = z := ⟨_, rfl⟩
  have hy0 : 0 ≤ y0.toInt ∧ y0.toInt ≤ 400 := hIF.at ey0
  rw [ey0] at hj13 htr
  obtain ⟨y5, ey5⟩ : ∃ z : Int32, F 11 = z := ⟨_, rfl⟩
  rw [ey5] at hj15
  have hy5 := tk_rng y5
  obtain ⟨ht_ld20, ht_ld70, ht_ld80, ht_ld90, ht_ld100, ht_ld110, ht_ld120⟩ := id hT.1
  obtain ⟨ht_ld24, ht_ld76, ht_ld86, ht_ld96, ht_ld106, ht_ld116, ht_ld126⟩ := id hT.2.1
  obtain ⟨ht_ld25, ht_ld77, ht_ld87, ht_ld97, ht_ld107, ht_ld117, ht_ld127⟩ := id hT.2.2.1
  have ht_ld26 := hT.2.2.2.1
  have ht_ld49 := hT.2.2.2.2
  refine lv_aload_n hx hb dL_law_631 rfl (lv_at hl 2 rfl) ?_
  refine tk_ViA (As := []) (rest := []) (ci := 12) ⟨hx, hb, hml, hown, htl⟩ hK hG hZ hAZ hS (k_X12_orders_x l D cy ld t a0 y0 y5 ht0 (by omega) (by omega) (by omega) (by omega)) ⟨hj13, hj15⟩ ⟨callB_of 0 htl (wl_inL mw_799) rfl rfl rfl (htl _ mw_2) (htl _ mw_796) hd_yX12_orders ⟨(Nat.le_of_ble_eq_true rfl), (Nat.le_of_ble_eq_true rfl)⟩, htl _ mw_797, htl _ mw_798⟩ ht0 (by decide) tk_no rfl (fun q h => hge q h.1) rfl hl.1 rfl (Nat.le_of_ble_eq_true rfl) dL_law_632 ⟨by show cells + 0 ≤ 600000; omega, by show slots + 0 ≤ 7302250; omega⟩ (fun r1 H locs hpo1 hG hS hz9 hq9 => ?_)
  obtain ⟨hj13, hj15⟩ := hpo1
  have hC := jC.call hT.1 hC hq9 (by decide)
  have hKI := jK.call hT hKI hq9 (by decide) (by decide) (by decide)
  have htp := htp.call hq9 (tk_w.no ht_ld26 (by decide))
  have hM := hM.frame (H1 := H) (fun q hq => hq9 q (hM.lt hq) (fun h => hsep q h.1 hq))
  refine lv_pop hx hb dL_law_635 rfl ?_
  refine lv_aload_n hx hb dL_law_636 rfl (lv_at hl 1 rfl) ?_
  refine mz_ViA (As := []) (rest := []) ⟨hx, hb, hml, hown, htl⟩ hK hM hS (fun q h => hwge q h) (k_X13_orders l D cy ld ad am hD _ _ _ _ hIF hIG hIR) ⟨callB_of 0 htl (wl_inL mw_1008) rfl rfl rfl (htl _ mw_5) (htl _ mw_1005) hd_yX13_orders ⟨(Nat.le_of_ble_eq_true rfl), (Nat.le_of_ble_eq_true rfl)⟩, htl _ mw_1006, htl _ mw_1007⟩ rfl hl.1 rfl (Nat.le_of_ble_eq_true rfl) dL_law_637 ⟨by show cells + 0 + 0 ≤ 600000; omega, by show slots + 0 + 0 ≤ 7302250; omega⟩ (fun r2 H locs F G R S hpo hM hS hz9 hq9 => ?_)
  have hall := fun (q : Nat) (hq : (t q).1 ≠ 0) => hq9 q (hG.lt hq) (hsep q hq)
  have hG := hG.frame (H1 := H) hall
  have hC := jC.all hT.1 hC hall
  have hKI := jK.all hT hKI hall
  have htp := htp.kept (hall _ (by rw [ht_ld26]; exact Nat.succ_ne_zero _))
  have hj13 := hj13.kept (hall _ (by rw [ht0]; exact Nat.succ_ne_zero _))
  have hj15 := hj15.kept (hall _ (by rw [ht0]; exact Nat.succ_ne_zero _))
  obtain ⟨hIF, hIG, hIR, hfr9, hrr9, hgr9, hrel9, hp2_0, hp2_1, hp2_2⟩ := hpo
  have hR := hR.rel hrel9.k3
  have hKI : jK D ld (R 4) (R 5) H := by rw [hrr9 4 (by decide), hrr9 5 (by decide)]; exact hKI
  have hz0 : (0 : Int32).toInt = 0 := by decide
  have eF13 : F 13 = 0 := (fi_eq rfl rfl).mpr (by have h1 := hp2_0; omega)
  have htr : ∀ j : Nat, (j : Int) < (0 : Int32).toInt → ft j = R 12 j := fun j hj => absurd hj (by omega)
  have eF11 := (hfr9 11 (by decide)).trans ey5
  have hJ9 : lw_J D ld t a0 F R H := ⟨hT, ⟨_, _, _, _, _, _, _, _, _, _, hC, hR⟩, hKI, ⟨_, htp, by rw [eF13]; exact htr⟩, by rw [eF13]; exact hj13, by rw [eF11]; exact hj15⟩
  refine lv_pop hx hb dL_law_640 rfl ?_
  refine lv_goto (tgt := 1375) hx hb dL_law_641 (by decide) ?_
  refine W.widen (k := cells + 7) (n := slots + 1106) (by exact Nat.le_add_right _ _) (by exact Nat.le_add_right _ _) ?_
  exact kk t F G R S H locs ls ⟨ht0, hG, hge, hD, hM, ⟨hIF, hIG, hIR⟩, hsep, hwge⟩ hJ9 hS hl
