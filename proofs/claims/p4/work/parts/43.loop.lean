set_option maxHeartbeats 16000000 in
set_option maxRecDepth 100000 in
theorem law_loop {p : Program} {l : Launch} {e : Env} {s : State} {m : MethodId} {below : List Frame} {meth : Method} {c : Code} {b L : Nat} {xs : Nat → Int32} (C0 : lw_At p s m meth c b L xs) (htl : ∀ w ∈ wsA, w.before #[Value.ref b] s = true) {D : va_G} {cy : Nat → ClassId} {ld ad : Nat → Nat} (hK : kk_K D cy ld s) (hZ0 : tk_Z ld (fun _ => (0, 0, 0)) s) {a0 am : Nat} (hL : L ≤ 3072) : ∀ (N : Nat) (j : Int), 0 ≤ j → 6 * j ≤ (L : Int) → (L : Int) < 6 * j + 6 * N + 6 → ∀ (t : tk_T) (F : Nat → Int32) (G : Nat → Int64) (R : Nat → Nat → Int32) (S : Nat → Nat → Int64) (H : Heap) (locs : List Loc) (v : Int32) (cells slots : Nat), v.toInt = 6 * j → (cells : Int) ≤ 1000 + 7 * j → (slots : Int) ≤ 50000 + 1106 * j → lw_I D cy ld t ad a0 am s.heap.size F G R S H → lw_J D ld t a0 F R H → va_S (fun q : Nat => s.heap.size ≤ q) s.heap H locs → ∀ ls : Array Slot, lv_has ls 4 [(3, .int v), (2, .ref am), (1, .ref a0), (0, .ref b)] → W p l e room_1 s m #[Value.ref b] below meth c H locs (cells) (slots) (lw_Z below #[Value.ref b] s) (F0 m 18 ls []) := by
  intro N
  induction N with
  | zero =>
    intro j hj hj6 hjL t F G R S H locs v cells slots hv hc hs hI hJ hS ls hl
    obtain ⟨hx, hb, hr, hml, hown, hts, hX, hbl, hlocks, hgv⟩ := id C0
    have hown : s.vm.findClass RL = some m.cls := hown
    have hbA : ¬ (fun q : Nat => s.heap.size ≤ q) b := Nat.not_le.mpr hbl
    have hLn : (Int32.ofNat L).toInt = (L : Int) := nI_toInt (by omega)
    have h6 : (6 : Int32).toInt = 6 := by decide
    refine lv_iload_n hx hb dL_law_18 rfl (lv_at hl 0 rfl) ?_
    refine lv_aload_n hx hb dL_law_19 rfl (lv_at hl 3 rfl) ?_
    refine va_slen hx hb hX hbl hbA hS dL_law_20 ?_
    refine lv_bipush (v := 6) hx hb dL_law_21 (by decide) ?_
    refine lv_isub hx hb dL_law_23 ?_
    refine tk_sub hLn h6 (by omega) (by omega) (fun w hw => ?_)
    refine lv_icmp_gt (tgt := 1381) hx hb dL_law_24 (by decide) (fun _ => ?_) (fun c9 => absurd ((fi_lt hw hv).mpr (by omega)) c9)
    refine lv_iconst (v := 1) hx hb dL_law_1381 (by decide) ?_
    refine va_forget (fun q hq => hS.2.2 q hq) ?_
    refine W.widen (k := 600000) (n := 7302250) (by omega) (by omega) ?_
    exact lw_ret hx hb hr hlocks dL_law_1382
  | succ N ih =>
    intro j hj hj6 hjL t F G R S H locs v cells slots hv hc hs hI hJ hS ls hl
    obtain ⟨hx, hb, hr, hml, hown, hts, hX, hbl, hlocks, hgv⟩ := id C0
    have hown : s.vm.findClass RL = some m.cls := hown
    have hbA : ¬ (fun q : Nat => s.heap.size ≤ q) b := Nat.not_le.mpr hbl
    have hLn : (Int32.ofNat L).toInt = (L : Int) := nI_toInt (by omega)
    have h6 : (6 : Int32).toInt = 6 := by decide
    refine lv_iload_n hx hb dL_law_18 rfl (lv_at hl 0 rfl) ?_
    refine lv_aload_n hx hb dL_law_19 rfl (lv_at hl 3 rfl) ?_
    refine va_slen hx hb hX hbl hbA hS dL_law_20 ?_
    refine lv_bipush (v := 6) hx hb dL_law_21 (by decide) ?_
    refine lv_isub hx hb dL_law_23 ?_
    refine tk_sub hLn h6 (by omega) (by omega) (fun w hw => ?_)
    refine lv_icmp_gt (tgt := 1381) hx hb dL_law_24 (by decide) (fun _ => ?_) (fun c9 => ?_)
    · refine lv_iconst (v := 1) hx hb dL_law_1381 (by decide) ?_
      refine va_forget (fun q hq => hS.2.2 q hq) ?_
      refine W.widen (k := 600000) (n := 7302250) (by omega) (by omega) ?_
      exact lw_ret hx hb hr hlocks dL_law_1382
    · have c8 : ¬ (w.toInt < v.toInt) := fun h9 => c9 ((fi_lt rfl rfl).mpr h9)
      have hiL : (6 * j : Int) + 6 ≤ (L : Int) := by omega
      have hend : ∀ (t : tk_T) (F : Nat → Int32) (G : Nat → Int64) (R : Nat → Nat → Int32) (S : Nat → Nat → Int64) (H : Heap) (locs : List Loc) (ls : Array Slot), lw_I D cy ld t ad a0 am s.heap.size F G R S H → lw_J D ld t a0 F R H → va_S (fun q : Nat => s.heap.size ≤ q) s.heap H locs → lv_has ls 4 [(3, .int v), (2, .ref am), (1, .ref a0), (0, .ref b)] → W p l e room_1 s m #[Value.ref b] below meth c H locs (cells + 7) (slots + 1106) (lw_Z below #[Value.ref b] s) (F0 m 1375 ls []) := by
        intro t F G R S H locs ls hI hJ hS hl
        obtain ⟨v6, h_v6, e_v6⟩ := tk_inc v 6 (by decide) (by omega) (by omega)
        refine lv_iinc (v := v6) (lv' := [(3, .int v6), (2, .ref am), (1, .ref a0), (0, .ref b)]) hx hb dL_law_1375 hl (k := 0) rfl e_v6 (by decide) rfl (fun ls hl => ?_)
        refine lv_goto (tgt := 18) hx hb dL_law_1378 (by decide) ?_
        exact ih (j + 1) (by omega) (by omega) (by omega) t F G R S H locs v6 _ _ (by omega) (by omega) (by omega) hI hJ hS ls hl
      refine lv_aload_n hx hb dL_law_27 rfl (lv_at hl 3 rfl) ?_
      refine lv_iload_n hx hb dL_law_28 rfl (lv_at hl 0 rfl) ?_
      refine va_sld hx hb hX hbl hbA hS (tk_idx hv (by omega) (by omega)).1 dL_law_29 ?_
      refine lv_bipush (v := 63) hx hb dL_law_30 (by decide) ?_
      refine lv_iand hx hb dL_law_32 ?_
      obtain ⟨k, hk, ek⟩ := pk_andE (xs v.toNatClampNeg) (m := 63) 6 (by decide)
      refine fx_ti (v := nI k) ek ?_
      rcases (show k = 0 ∨ k = 1 ∨ k = 2 ∨ k = 3 ∨ k = 4 ∨ k = 5 ∨ k = 6 ∨ k = 7 ∨ k = 8 ∨ k = 9 ∨ k = 10 ∨ k = 11 ∨ k = 12 ∨ k = 13 ∨ k = 14 ∨ k = 15 ∨ k = 16 ∨ k = 17 ∨ k = 18 ∨ k = 19 ∨ k = 20 ∨ k = 21 ∨ k = 22 ∨ k = 23 ∨ k = 24 ∨ k = 25 ∨ k = 26 ∨ k = 27 ∨ k = 28 ∨ k = 29 ∨ k = 30 ∨ k = 31 ∨ k = 32 ∨ k = 33 ∨ k = 34 ∨ k = 35 ∨ k = 36 ∨ k = 37 ∨ k = 38 ∨ k = 39 ∨ k = 40 ∨ 41 ≤ k by omega) with rfl | rfl | rfl | rfl | rfl | rfl | rfl | rfl | rfl | rfl | rfl | rfl | rfl | rfl | rfl | rfl | rfl | rfl | rfl | rfl | rfl | rfl | rfl | rfl | rfl | rfl | rfl | rfl | rfl | rfl | rfl | rfl | rfl | rfl | rfl | rfl | rfl | rfl | rfl | rfl | rfl | hk2
      · refine lv_tableIn (off := 179) (tgt := 212) hx hb dL_law_33 (by decide) (by decide) (by decide) (by decide) ?_
        exact law_0 C0 htl hK hZ0 hI hJ hS hS.1 hL hv (by omega) hiL (by omega) (by omega) ls hl hend
      · refine lv_tableIn (off := 222) (tgt := 255) hx hb dL_law_33 (by decide) (by decide) (by decide) (by decide) ?_
        exact law_1 C0 htl hK hZ0 hI hJ hS hS.1 hL hv (by omega) hiL (by omega) (by omega) ls hl hend
      · refine lv_tableIn (off := 255) (tgt := 288) hx hb dL_law_33 (by decide) (by decide) (by decide) (by decide) ?_
        exact law_2 C0 htl hK hZ0 hI hJ hS hS.1 hL hv (by omega) hiL (by omega) (by omega) ls hl hend
      · refine lv_tableIn (off := 288) (tgt := 321) hx hb dL_law_33 (by decide) (by decide) (by decide) (by decide) ?_
        exact law_3 C0 htl hK hZ0 hI hJ hS hS.1 hL hv (by omega) hiL (by omega) (by omega) ls hl hend
      · refine lv_tableIn (off := 321) (tgt := 354) hx hb dL_law_33 (by decide) (by decide) (by decide) (by decide) ?_
        exact law_4 C0 htl hK hZ0 hI hJ hS hS.1 hL hv (by omega) hiL (by omega) (by omega) ls hl hend
      · refine lv_tableIn (off := 364) (tgt := 397) hx hb dL_law_33 (by decide) (by decide) (by decide) (by decide) ?_
        exact law_5 C0 htl hK hZ0 hI hJ hS hS.1 hL hv (by omega) hiL (by omega) (by omega) ls hl hend
      · refine lv_tableIn (off := 407) (tgt := 440) hx hb dL_law_33 (by decide) (by decide) (by decide) (by decide) ?_
        exact law_6 C0 htl hK hZ0 hI hJ hS hS.1 hL hv (by omega) hiL (by omega) (by omega) ls hl hend
      · refine lv_tableIn (off := 440) (tgt := 473) hx hb dL_law_33 (by decide) (by decide) (by decide) (by decide) ?_
        exact law_7 C0 htl hK hZ0 hI hJ hS hS.1 hL hv (by omega) hiL (by omega) (by omega) ls hl hend
      · refine lv_tableIn (off := 473) (tgt := 506) hx hb dL_law_33 (by decide) (by decide) (by decide) (by decide) ?_
        exact law_8 C0 htl hK hZ0 hI hJ hS hS.1 hL hv (by omega) hiL (by omega) (by omega) ls hl hend
      · refine lv_tableIn (off := 536) (tgt := 569) hx hb dL_law_33 (by decide) (by decide) (by decide) (by decide) ?_
        exact law_9 C0 htl hK hZ0 hI hJ hS hS.1 hL hv (by omega) hiL (by omega) (by omega) ls hl hend
      · refine lv_tableIn (off := 559) (tgt := 592) hx hb dL_law_33 (by decide) (by decide) (by decide) (by decide) ?_
        exact law_10 C0 htl hK hZ0 hI hJ hS hS.1 hL hv (by omega) hiL (by omega) (by omega) ls hl hend
      · refine lv_tableIn (off := 572) (tgt := 605) hx hb dL_law_33 (by decide) (by decide) (by decide) (by decide) ?_
        exact law_11 C0 htl hK hZ0 hI hJ hS hS.1 hL hv (by omega) hiL (by omega) (by omega) ls hl hend
      · refine lv_tableIn (off := 585) (tgt := 618) hx hb dL_law_33 (by decide) (by decide) (by decide) (by decide) ?_
        exact law_12 C0 htl hK hZ0 hI hJ hS hS.1 hL hv (by omega) hiL (by omega) (by omega) ls hl hend
      · refine lv_tableIn (off := 598) (tgt := 631) hx hb dL_law_33 (by decide) (by decide) (by decide) (by decide) ?_
        exact law_13 C0 htl hK hZ0 hI hJ hS hS.1 hL hv (by omega) hiL (by omega) (by omega) ls hl hend
      · refine lv_tableIn (off := 611) (tgt := 644) hx hb dL_law_33 (by decide) (by decide) (by decide) (by decide) ?_
        exact law_14 C0 htl hK hZ0 hI hJ hS hS.1 hL hv (by omega) hiL (by omega) (by omega) ls hl hend
      · refine lv_tableIn (off := 624) (tgt := 657) hx hb dL_law_33 (by decide) (by decide) (by decide) (by decide) ?_
        exact law_15 C0 htl hK hZ0 hI hJ hS hS.1 hL hv (by omega) hiL (by omega) (by omega) ls hl hend
      · refine lv_tableIn (off := 637) (tgt := 670) hx hb dL_law_33 (by decide) (by decide) (by decide) (by decide) ?_
        exact law_16 C0 htl hK hZ0 hI hJ hS hS.1 hL hv (by omega) hiL (by omega) (by omega) ls hl hend
      · refine lv_tableIn (off := 660) (tgt := 693) hx hb dL_law_33 (by decide) (by decide) (by decide) (by decide) ?_
        exact law_17 C0 htl hK hZ0 hI hJ hS hS.1 hL hv (by omega) hiL (by omega) (by omega) ls hl hend
      · refine lv_tableIn (off := 693) (tgt := 726) hx hb dL_law_33 (by decide) (by decide) (by decide) (by decide) ?_
        exact law_18 C0 htl hK hZ0 hI hJ hS hS.1 hL hv (by omega) hiL (by omega) (by omega) ls hl hend
      · refine lv_tableIn (off := 716) (tgt := 749) hx hb dL_law_33 (by decide) (by decide) (by decide) (by decide) ?_
        exact law_19 C0 htl hK hZ0 hI hJ hS hS.1 hL hv (by omega) hiL (by omega) (by omega) ls hl hend
      · refine lv_tableIn (off := 759) (tgt := 792) hx hb dL_law_33 (by decide) (by decide) (by decide) (by decide) ?_
        exact law_20 C0 htl hK hZ0 hI hJ hS hS.1 hL hv (by omega) hiL (by omega) (by omega) ls hl hend
      · refine lv_tableIn (off := 782) (tgt := 815) hx hb dL_law_33 (by decide) (by decide) (by decide) (by decide) ?_
        exact law_21 C0 htl hK hZ0 hI hJ hS hS.1 hL hv (by omega) hiL (by omega) (by omega) ls hl hend
      · refine lv_tableIn (off := 805) (tgt := 838) hx hb dL_law_33 (by decide) (by decide) (by decide) (by decide) ?_
        exact law_22 C0 htl hK hZ0 hI hJ hS hS.1 hL hv (by omega) hiL (by omega) (by omega) ls hl hend
      · refine lv_tableIn (off := 818) (tgt := 851) hx hb dL_law_33 (by decide) (by decide) (by decide) (by decide) ?_
        exact law_23 C0 htl hK hZ0 hI hJ hS hS.1 hL hv (by omega) hiL (by omega) (by omega) ls hl hend
      · refine lv_tableIn (off := 831) (tgt := 864) hx hb dL_law_33 (by decide) (by decide) (by decide) (by decide) ?_
        exact law_24 C0 htl hK hZ0 hI hJ hS hS.1 hL hv (by omega) hiL (by omega) (by omega) ls hl hend
      · refine lv_tableIn (off := 844) (tgt := 877) hx hb dL_law_33 (by decide) (by decide) (by decide) (by decide) ?_
        exact law_25 C0 htl hK hZ0 hI hJ hS hS.1 hL hv (by omega) hiL (by omega) (by omega) ls hl hend
      · refine lv_tableIn (off := 877) (tgt := 910) hx hb dL_law_33 (by decide) (by decide) (by decide) (by decide) ?_
        exact law_26 C0 htl hK hZ0 hI hJ hS hS.1 hL hv (by omega) hiL (by omega) (by omega) ls hl hend
      · refine lv_tableIn (off := 920) (tgt := 953) hx hb dL_law_33 (by decide) (by decide) (by decide) (by decide) ?_
        exact law_27 C0 htl hK hZ0 hI hJ hS hS.1 hL hv (by omega) hiL (by omega) (by omega) ls hl hend
      · refine lv_tableIn (off := 953) (tgt := 986) hx hb dL_law_33 (by decide) (by decide) (by decide) (by decide) ?_
        exact law_28 C0 htl hK hZ0 hI hJ hS hS.1 hL hv (by omega) hiL (by omega) (by omega) ls hl hend
      · refine lv_tableIn (off := 976) (tgt := 1009) hx hb dL_law_33 (by decide) (by decide) (by decide) (by decide) ?_
        exact law_29 C0 htl hK hZ0 hI hJ hS hS.1 hL hv (by omega) hiL (by omega) (by omega) ls hl hend
      · refine lv_tableIn (off := 1009) (tgt := 1042) hx hb dL_law_33 (by decide) (by decide) (by decide) (by decide) ?_
        exact law_30 C0 htl hK hZ0 hI hJ hS hS.1 hL hv (by omega) hiL (by omega) (by omega) ls hl hend
      · refine lv_tableIn (off := 1072) (tgt := 1105) hx hb dL_law_33 (by decide) (by decide) (by decide) (by decide) ?_
        exact law_31 C0 htl hK hZ0 hI hJ hS hS.1 hL hv (by omega) hiL (by omega) (by omega) ls hl hend
      · refine lv_tableIn (off := 1085) (tgt := 1118) hx hb dL_law_33 (by decide) (by decide) (by decide) (by decide) ?_
        exact law_32 C0 htl hK hZ0 hI hJ hS hS.1 hL hv (by omega) hiL (by omega) (by omega) ls hl hend
      · refine lv_tableIn (off := 1118) (tgt := 1151) hx hb dL_law_33 (by decide) (by decide) (by decide) (by decide) ?_
        exact law_33 C0 htl hK hZ0 hI hJ hS hS.1 hL hv (by omega) hiL (by omega) (by omega) ls hl hend
      · refine lv_tableIn (off := 1151) (tgt := 1184) hx hb dL_law_33 (by decide) (by decide) (by decide) (by decide) ?_
        exact law_34 C0 htl hK hZ0 hI hJ hS hS.1 hL hv (by omega) hiL (by omega) (by omega) ls hl hend
      · refine lv_tableIn (off := 1194) (tgt := 1227) hx hb dL_law_33 (by decide) (by decide) (by decide) (by decide) ?_
        exact law_35 C0 htl hK hZ0 hI hJ hS hS.1 hL hv (by omega) hiL (by omega) (by omega) ls hl hend
      · refine lv_tableIn (off := 1227) (tgt := 1260) hx hb dL_law_33 (by decide) (by decide) (by decide) (by decide) ?_
        exact law_36 C0 htl hK hZ0 hI hJ hS hS.1 hL hv (by omega) hiL (by omega) (by omega) ls hl hend
      · refine lv_tableIn (off := 1260) (tgt := 1293) hx hb dL_law_33 (by decide) (by decide) (by decide) (by decide) ?_
        exact law_37 C0 htl hK hZ0 hI hJ hS hS.1 hL hv (by omega) hiL (by omega) (by omega) ls hl hend
      · refine lv_tableIn (off := 1283) (tgt := 1316) hx hb dL_law_33 (by decide) (by decide) (by decide) (by decide) ?_
        exact law_38 C0 htl hK hZ0 hI hJ hS hS.1 hL hv (by omega) hiL (by omega) (by omega) ls hl hend
      · refine lv_tableIn (off := 1306) (tgt := 1339) hx hb dL_law_33 (by decide) (by decide) (by decide) (by decide) ?_
        exact law_39 C0 htl hK hZ0 hI hJ hS hS.1 hL hv (by omega) hiL (by omega) (by omega) ls hl hend
      · refine lv_tableIn (off := 1329) (tgt := 1362) hx hb dL_law_33 (by decide) (by decide) (by decide) (by decide) ?_
        exact law_40 C0 htl hK hZ0 hI hJ hS hS.1 hL hv (by omega) hiL (by omega) (by omega) ls hl hend
      · refine lv_tableOut (tgt := 1375) hx hb dL_law_33 (Or.inr (by rw [nI_toInt (show k < 2 ^ 31 by omega)]; omega)) (by decide) ?_
        refine W.widen (k := cells + 7) (n := slots + 1106) (by omega) (by omega) ?_
        exact hend t F G R S H locs ls hI hJ hS hl
