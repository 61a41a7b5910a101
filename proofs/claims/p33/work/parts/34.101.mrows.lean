theorem hd_yX13_draw : yX13_draw.cls ≠ "java/lang/invoke/MethodHandle" ∧ yX13_draw.cls ≠ "java/lang/invoke/VarHandle" ∧ (parseMethodDescriptor yX13_draw.desc).map (fun d => d.parameters.length) = some 1 := by decide +kernel
theorem dX13_drawVerse_0 : decode cX13_drawVerse 0 = .ok (.iconst 0, 1) := by decide +kernel
theorem dX13_drawVerse_1 : decode cX13_drawVerse 1 = .ok (.istore_n 1, 1) := by decide +kernel
theorem dX13_drawVerse_2 : decode cX13_drawVerse 2 = .ok (.iconst 0, 1) := by decide +kernel
theorem dX13_drawVerse_3 : decode cX13_drawVerse 3 = .ok (.istore_n 2, 1) := by decide +kernel
theorem dX13_drawVerse_4 : decode cX13_drawVerse 4 = .ok (.iload_n 2, 1) := by decide +kernel
theorem dX13_drawVerse_5 : decode cX13_drawVerse 5 = .ok (.aload_n 0, 1) := by decide +kernel
theorem dX13_drawVerse_6 : decode cX13_drawVerse 6 = .ok (.getfield 13, 3) := by decide +kernel
theorem dX13_drawVerse_9 : decode cX13_drawVerse 9 = .ok (.iconst 1, 1) := by decide +kernel
theorem dX13_drawVerse_10 : decode cX13_drawVerse 10 = .ok (.iaload, 1) := by decide +kernel
theorem dX13_drawVerse_11 : decode cX13_drawVerse 11 = .ok (.if_icmp .ge 25, 3) := by decide +kernel
theorem dX13_drawVerse_36 : decode cX13_drawVerse 36 = .ok (.iload_n 1, 1) := by decide +kernel
theorem dX13_drawVerse_49 : decode cX13_drawVerse 49 = .ok (.istore_n 2, 1) := by decide +kernel
theorem dX13_drawVerse_50 : decode cX13_drawVerse 50 = .ok (.iconst 0, 1) := by decide +kernel
theorem dX13_drawVerse_51 : decode cX13_drawVerse 51 = .ok (.istore_n 3, 1) := by decide +kernel
theorem dX13_drawVerse_52 : decode cX13_drawVerse 52 = .ok (.iload_n 3, 1) := by decide +kernel
theorem dX13_drawVerse_53 : decode cX13_drawVerse 53 = .ok (.aload_n 0, 1) := by decide +kernel
theorem dX13_drawVerse_54 : decode cX13_drawVerse 54 = .ok (.getfield 13, 3) := by decide +kernel
theorem dX13_drawVerse_57 : decode cX13_drawVerse 57 = .ok (.iconst 1, 1) := by decide +kernel
theorem dX13_drawVerse_58 : decode cX13_drawVerse 58 = .ok (.iaload, 1) := by decide +kernel
theorem dX13_drawVerse_59 : decode cX13_drawVerse 59 = .ok (.if_icmp .ge 30, 3) := by decide +kernel
theorem dX13_drawVerse_89 : decode cX13_drawVerse 89 = .ok (.iconst (-1), 1) := by decide +kernel
theorem dX13_drawVerse_90 : decode cX13_drawVerse 90 = .ok (.ireturn, 1) := by decide +kernel
theorem dX13_drawVerse_62 : decode cX13_drawVerse 62 = .ok (.iload_n 1, 1) := by decide +kernel
theorem dX13_drawVerse_63 : decode cX13_drawVerse 63 = .ok (.ifCond .le 26, 3) := by decide +kernel
theorem dX13_drawVerse_66 : decode cX13_drawVerse 66 = .ok (.aload_n 0, 1) := by decide +kernel
theorem dX13_drawVerse_67 : decode cX13_drawVerse 67 = .ok (.iload_n 3, 1) := by decide +kernel
theorem dX13_drawVerse_68 : decode cX13_drawVerse 68 = .ok (.invokevirtual 501, 3) := by decide +kernel
theorem dX13_drawVerse_71 : decode cX13_drawVerse 71 = .ok (.ifCond .eq 12, 3) := by decide +kernel
theorem dX13_drawVerse_83 : decode cX13_drawVerse 83 = .ok (.iinc 3 1, 3) := by decide +kernel
theorem dX13_drawVerse_86 : decode cX13_drawVerse 86 = .ok (.goto (-34), 3) := by decide +kernel
theorem dX13_drawVerse_74 : decode cX13_drawVerse 74 = .ok (.iload_n 2, 1) := by decide +kernel
theorem dX13_drawVerse_75 : decode cX13_drawVerse 75 = .ok (.ifCond .ne 5, 3) := by decide +kernel
theorem dX13_drawVerse_80 : decode cX13_drawVerse 80 = .ok (.iinc 2 (-1), 3) := by decide +kernel
theorem dX13_drawVerse_78 : decode cX13_drawVerse 78 = .ok (.iload_n 3, 1) := by decide +kernel
theorem dX13_drawVerse_79 : decode cX13_drawVerse 79 = .ok (.ireturn, 1) := by decide +kernel
theorem dX13_drawVerse_37 : decode cX13_drawVerse 37 = .ok (.ifCond .ne 7, 3) := by decide +kernel
theorem dX13_drawVerse_44 : decode cX13_drawVerse 44 = .ok (.aload_n 0, 1) := by decide +kernel
theorem dX13_drawVerse_45 : decode cX13_drawVerse 45 = .ok (.iload_n 1, 1) := by decide +kernel
theorem dX13_drawVerse_46 : decode cX13_drawVerse 46 = .ok (.invokevirtual 516, 3) := by decide +kernel
theorem dX13_drawVerse_40 : decode cX13_drawVerse 40 = .ok (.iconst 0, 1) := by decide +kernel
theorem dX13_drawVerse_41 : decode cX13_drawVerse 41 = .ok (.goto 8, 3) := by decide +kernel
theorem dX13_drawVerse_14 : decode cX13_drawVerse 14 = .ok (.iload_n 1, 1) := by decide +kernel
theorem dX13_drawVerse_15 : decode cX13_drawVerse 15 = .ok (.aload_n 0, 1) := by decide +kernel
theorem dX13_drawVerse_16 : decode cX13_drawVerse 16 = .ok (.iload_n 2, 1) := by decide +kernel
theorem dX13_drawVerse_17 : decode cX13_drawVerse 17 = .ok (.invokevirtual 501, 3) := by decide +kernel
theorem dX13_drawVerse_28 : decode cX13_drawVerse 28 = .ok (.iadd, 1) := by decide +kernel
theorem dX13_drawVerse_29 : decode cX13_drawVerse 29 = .ok (.istore_n 1, 1) := by decide +kernel
theorem dX13_drawVerse_30 : decode cX13_drawVerse 30 = .ok (.iinc 2 1, 3) := by decide +kernel
theorem dX13_drawVerse_33 : decode cX13_drawVerse 33 = .ok (.goto (-29), 3) := by decide +kernel
theorem dX13_drawVerse_20 : decode cX13_drawVerse 20 = .ok (.ifCond .eq 7, 3) := by decide +kernel
theorem dX13_drawVerse_27 : decode cX13_drawVerse 27 = .ok (.iconst 0, 1) := by decide +kernel
theorem dX13_drawVerse_23 : decode cX13_drawVerse 23 = .ok (.iconst 1, 1) := by decide +kernel
theorem dX13_drawVerse_24 : decode cX13_drawVerse 24 = .ok (.goto 4, 3) := by decide +kernel
set_option maxHeartbeats 4000000 in
set_option maxRecDepth 100000 in
theorem k_X13_drawVerse (l : Launch) (D : va_G) (cy : Nat → ClassId) (ld ad : Nat → Nat) (am : Nat) (hD : mz_D ad am) (Fa : Nat → Int32) (Ga : Nat → Int64) (Ra : Nat → Nat → Int32) (Sa : Nat → Nat → Int64) (hIF : mz_IF true Fa) (hIG : mz_IG Ga) (hIR : mz_IR [] true Ra) : Met l yX13_drawVerse (wl yX13_drawVerse cX13_drawVerse 4 (some .int)) ({ frames := 10, cells := 0, slots := 0, locals := 630 }) (mz_p D cy ld ad am Fa Ga Ra Sa [.ref am]) (mz_i D cy ad am (fun r F G R S => mz_IF true F ∧ mz_IG G ∧ mz_IR [] true R ∧ (∀ k : Nat, k ∉ ([34, 38] : List Nat) → F k = Fa k) ∧ (∀ k : Nat, k ∉ ([] : List Nat) → R k = Ra k) ∧ (∀ k : Nat, k ∉ ([39, 40, 47] : List Nat) → G k = Ga k) ∧ (-1) ≤ r.toInt ∧ r.toInt ≤ 9)) 0 0 (mz_W ad am) := by
  refine mz_met (y := yX13_drawVerse) (cc := cX13_drawVerse) (maxL := 4) (ret := (some .int)) (av := [.ref am]) _ (by decide) (Nat.le_of_ble_eq_true rfl) ?_
  intro p e s m args below meth c hx hb hr hml hts htl hown hlocks hK H locs hM hS ls hl
  have hown : s.vm.findClass RX13 = some m.cls := hown
  have hl : lv_has ls 4 [(0, .ref am)] := hl
  refine lv_iconst (v := 0) hx hb dX13_drawVerse_0 (by decide) ?_
  refine lv_istore_n (lv' := [(1, .int 0), (0, .ref am)]) hx hb dX13_drawVerse_1 rfl hl (by decide) rfl (fun ls hl => ?_)
  refine lv_iconst (v := 0) hx hb dX13_drawVerse_2 (by decide) ?_
  refine lv_istore_n (lv' := [(2, .int 0), (1, .int 0), (0, .ref am)]) hx hb dX13_drawVerse_3 rfl hl (by decide) rfl (fun ls hl => ?_)
  have hl1193 : ∀ (N_l1193 : Nat) (v176 : Int32) (v177 : Int32) (H : Heap) (locs : List Loc) (F : Nat → Int32) (G : Nat → Int64) (R : Nat → Nat → Int32) (S : Nat → Nat → Int64), (v176.toInt ≤ 10) → (0 ≤ v177.toInt) → (0 ≤ v176.toInt + (-1) * v177.toInt) → (mz_S D cy ad am F G R S H) → (va_S (mz_W ad am) s.heap H locs) → (mz_IF true F) → (mz_IG G) → (mz_IR [] true R) → (∀ k : Nat, k ∉ ([34, 38] : List Nat) → F k = Fa k) → (∀ k : Nat, k ∉ ([39, 40, 47] : List Nat) → G k = Ga k) → (∀ k : Nat, k ∉ ([] : List Nat) → R k = Ra k) → ((-1) * v176.toInt + 10 < (N_l1193 : Int)) → ∀ ls : Array Slot, lv_has ls 4 [(2, .int v176), (1, .int v177), (0, .ref am)] → W p l e ({ frames := 10, cells := 0, slots := 0, locals := 630 }) s m args below meth c H locs 0 0 (MQ below (mz_i D cy ad am (fun r F G R S => mz_IF true F ∧ mz_IG G ∧ mz_IR [] true R ∧ (∀ k : Nat, k ∉ ([34, 38] : List Nat) → F k = Fa k) ∧ (∀ k : Nat, k ∉ ([] : List Nat) → R k = Ra k) ∧ (∀ k : Nat, k ∉ ([39, 40, 47] : List Nat) → G k = Ga k) ∧ (-1) ≤ r.toInt ∧ r.toInt ≤ 9)) args s 0 0 (mz_W ad am)) (F0 m 4 ls []) := by
    intro N_l1193
    induction N_l1193 with
    | zero => intro v176 v177 H locs F G R S hq0_l1193 hq1_l1193 hq2_l1193 hM hS hIF hIG hIR hFF hGG hRR hm_l1193 ls hl; exfalso; omega
    | succ N_l1193 ih_l1193 =>
      intro v176 v177 H locs F G R S hq0_l1193 hq1_l1193 hq2_l1193 hM hS hIF hIG hIR hFF hGG hRR hm_l1193 ls hl
      refine lv_iload_n hx hb dX13_drawVerse_4 rfl (lv_at hl 0 rfl) ?_
      refine lv_aload_n hx hb dX13_drawVerse_5 rfl (lv_at hl 2 rfl) ?_
      refine mz_getR hx hb htl hown hK hM 3 (Nat.le_of_ble_eq_true rfl) (Nat.le_of_ble_eq_true rfl) (htl _ mw_188) (fun _ h9 => h9) dX13_drawVerse_6 ?_
      refine lv_iconst (v := 1) hx hb dX13_drawVerse_9 (by decide) ?_
      refine mz_iald hx hb hK hM 3 (Nat.le_of_ble_eq_true rfl) rfl (nn := 5560) rfl (I := 1) (by decide) (by decide) (by decide) dX13_drawVerse_10 (fun v1195 hf1194 => ?_)
      have hf1194 : R 3 1 = v1195 := hf1194
      have hq_v1195 := tk_rng v1195
      have hr_v1195 : 0 ≤ v1195.toInt ∧ v1195.toInt ≤ 10 := by have h9 := mz_r3c 1 (hIR.at 3) hf1194 (by decide); unfold mE at h9; omega
      refine lv_icmp_ge (tgt := 36) hx hb dX13_drawVerse_11 (by decide) (fun c9 => ?_) (fun c9 => ?_)
      · have hc1196 : v1195.toInt ≤ v176.toInt := (fi_le rfl rfl).mp c9
        refine lv_iload_n hx hb dX13_drawVerse_36 rfl (lv_at hl 1 rfl) ?_
        have hj1220 : ∀ (v1218 : Int32) (H : Heap) (locs : List Loc) (F : Nat → Int32) (G : Nat → Int64) (R : Nat → Nat → Int32) (S : Nat → Nat → Int64), (0 ≤ v1218.toInt) → (v1218.toInt ≤ 9) → (0 ≤ (-1) * v1218.toInt + v177.toInt) → (mz_S D cy ad am F G R S H) → (va_S (mz_W ad am) s.heap H locs) → (mz_IF true F) → (mz_IG G) → (mz_IR [] true R) → (∀ k : Nat, k ∉ ([34, 38] : List Nat) → F k = Fa k) → (∀ k : Nat, k ∉ ([39, 40, 47] : List Nat) → G k = Ga k) → (∀ k : Nat, k ∉ ([] : List Nat) → R k = Ra k) → (R 3 1 = v1195) → ∀ ls : Array Slot, lv_has ls 4 [(1, .int v177), (0, .ref am)] → W p l e ({ frames := 10, cells := 0, slots := 0, locals := 630 }) s m args below meth c H locs 0 0 (MQ below (mz_i D cy ad am (fun r F G R S => mz_IF true F ∧ mz_IG G ∧ mz_IR [] true R ∧ (∀ k : Nat, k ∉ ([34, 38] : List Nat) → F k = Fa k) ∧ (∀ k : Nat, k ∉ ([] : List Nat) → R k = Ra k) ∧ (∀ k : Nat, k ∉ ([39, 40, 47] : List Nat) → G k = Ga k) ∧ (-1) ≤ r.toInt ∧ r.toInt ≤ 9)) args s 0 0 (mz_W ad am)) (F0 m 49 ls [.int v1218]) := by
          intro v1218 H locs F G R S hq0_j1220 hq1_j1220 hq2_j1220 hM hS hIF hIG hIR hFF hGG hRR hf1194 ls hl
          refine lv_istore_n (lv' := [(2, .int v1218), (1, .int v177), (0, .ref am)]) hx hb dX13_drawVerse_49 rfl hl (by decide) rfl (fun ls hl => ?_)
          refine lv_iconst (v := 0) hx hb dX13_drawVerse_50 (by decide) ?_
          refine lv_istore_n (lv' := [(3, .int 0), (2, .int v1218), (1, .int v177), (0, .ref am)]) hx hb dX13_drawVerse_51 rfl hl (by decide) rfl (fun ls hl => ?_)
          have hl1315 : ∀ (N_l1315 : Nat) (v1221 : Int32) (v1222 : Int32) (H : Heap) (locs : List Loc) (F : Nat → Int32) (G : Nat → Int64) (R : Nat → Nat → Int32) (S : Nat → Nat → Int64), (0 ≤ v1221.toInt) → (0 ≤ v1222.toInt) → (0 ≤ v1195.toInt + (-1) * v1221.toInt) → (0 ≤ v1218.toInt + (-1) * v1222.toInt) → (mz_S D cy ad am F G R S H) → (va_S (mz_W ad am) s.heap H locs) → (mz_IF true F) → (mz_IG G) → (mz_IR [] true R) → (∀ k : Nat, k ∉ ([34, 38] : List Nat) → F k = Fa k) → (∀ k : Nat, k ∉ ([39, 40, 47] : List Nat) → G k = Ga k) → (∀ k : Nat, k ∉ ([] : List Nat) → R k = Ra k) → (R 3 1 = v1195) → ((-1) * v1221.toInt + 10 < (N_l1315 : Int)) → ∀ ls : Array Slot, lv_has ls 4 [(3, .int v1221), (2, .int v1222), (1, .int v177), (0, .ref am)] → W p l e ({ frames := 10, cells := 0, slots := 0, locals := 630 }) s m args below meth c H locs 0 0 (MQ below (mz_i D cy ad am (fun r F G R S => mz_IF true F ∧ mz_IG G ∧ mz_IR [] true R ∧ (∀ k : Nat, k ∉ ([34, 38] : List Nat) → F k = Fa k) ∧ (∀ k : Nat, k ∉ ([] : List Nat) → R k = Ra k) ∧ (∀ k : Nat, k ∉ ([39, 40, 47] : List Nat) → G k = Ga k) ∧ (-1) ≤ r.toInt ∧ r.toInt ≤ 9)) args s 0 0 (mz_W ad am)) (F0 m 52 ls []) := by
            intro N_l1315
            induction N_l1315 with
            | zero => intro v1221 v1222 H locs F G R S hq0_l1315 hq1_l1315 hq2_l1315 hq3_l1315 hM hS hIF hIG hIR hFF hGG hRR hf1194 hm_l1315 ls hl; exfalso; omega
            | succ N_l1315 ih_l1315 =>
              intro v1221 v1222 H locs F G R S hq0_l1315 hq1_l1315 hq2_l1315 hq3_l1315 hM hS hIF hIG hIR hFF hGG hRR hf1194 hm_l1315 ls hl
              refine lv_iload_n hx hb dX13_drawVerse_52 rfl (lv_at hl 0 rfl) ?_
              refine lv_aload_n hx hb dX13_drawVerse_53 rfl (lv_at hl 3 rfl) ?_
              refine mz_getR hx hb htl hown hK hM 3 (Nat.le_of_ble_eq_true rfl) (Nat.le_of_ble_eq_true rfl) (htl _ mw_188) (fun _ h9 => h9) dX13_drawVerse_54 ?_
              refine lv_iconst (v := 1) hx hb dX13_drawVerse_57 (by decide) ?_
              refine mz_iald hx hb hK hM 3 (Nat.le_of_ble_eq_true rfl) rfl (nn := 5560) rfl (I := 1) (by decide) (by decide) (by decide) dX13_drawVerse_58 (fun v9 e9 => ?_)
              refine fx_ti (v := v1195) (e9.symm.trans (show R 3 (1 : Int32).toNatClampNeg = _ from hf1194)) ?_
              refine lv_icmp_ge (tgt := 89) hx hb dX13_drawVerse_59 (by decide) (fun c9 => ?_) (fun c9 => ?_)
              · have hc1316 : v1195.toInt ≤ v1221.toInt := (fi_le rfl rfl).mp c9
                refine lv_iconst (v := (-1)) hx hb dX13_drawVerse_89 (by decide) ?_
                have hk_m1 : ((-1) : Int32).toInt = (-1) := by decide
                exact mz_iret (v := (-1)) hx hb hr rfl hlocks ⟨hIF, hIG, hIR, hFF, hRR, hGG, (by omega), (by omega)⟩ hM hS dX13_drawVerse_90
              · have hc1316 : ¬ (v1195.toInt ≤ v1221.toInt) := fun h9 => c9 ((fi_le rfl rfl).mpr h9)
                refine lv_iload_n hx hb dX13_drawVerse_62 rfl (lv_at hl 2 rfl) ?_
                refine lv_if_le (tgt := 89) hx hb dX13_drawVerse_63 (by decide) (fun c9 => ?_) (fun c9 => ?_)
                · have hc1317 : v177.toInt ≤ 0 := (fi_le rfl (show (0 : Int32).toInt = 0 by decide)).mp c9
                  refine lv_iconst (v := (-1)) hx hb dX13_drawVerse_89 (by decide) ?_
                  have hk_m1 : ((-1) : Int32).toInt = (-1) := by decide
                  exact mz_iret (v := (-1)) hx hb hr rfl hlocks ⟨hIF, hIG, hIR, hFF, hRR, hGG, (by omega), (by omega)⟩ hM hS dX13_drawVerse_90
                · have hc1317 : ¬ (v177.toInt ≤ 0) := fun h9 => c9 ((fi_le rfl (show (0 : Int32).toInt = 0 by decide)).mpr h9)
                  refine lv_aload_n hx hb dX13_drawVerse_66 rfl (lv_at hl 3 rfl) ?_
                  refine lv_iload_n hx hb dX13_drawVerse_67 rfl (lv_at hl 0 rfl) ?_
                  refine mz_Vi (As := [.int v1221]) (rest := []) ⟨hx, hb, hml, hown, hts⟩ hK hM hS (k_X13_canSing l D cy ld ad am hD _ _ _ _ v1221 hIF hIG hIR (by omega) (by omega)) ⟨callB_of 1 hts (wl_in mw_1326) rfl rfl rfl (htl _ mw_5) (htl _ mw_1323) hd_yX13_canSing ⟨(Nat.le_of_ble_eq_true rfl), (Nat.le_of_ble_eq_true rfl)⟩, htl _ mw_1324, htl _ mw_1325⟩ rfl hl.1 rfl (Nat.le_of_ble_eq_true rfl) dX13_drawVerse_68 ⟨(Nat.le_of_ble_eq_true rfl), (Nat.le_of_ble_eq_true rfl)⟩ (fun v1318 H locs F G R S hpo hM hS => ?_)
                  obtain ⟨hIF, hIG, hIR, hfr9, hrr9, hgr9, hpo1319, hpo1320, hpo1321, hpo1322⟩ := hpo
                  have hq_v1318 := tk_rng v1318
                  have hFF := mz_fr (K := [34, 38]) (Fa := Fa) hfr9 hFF (by decide)
                  have hRR := mz_fr (K := []) (Fa := Ra) hrr9 hRR (by decide)
                  have hGG := mz_fr (K := [39, 40, 47]) (Fa := Ga) hgr9 hGG (by decide)
                  have hf1194 : R 3 1 = _ := (congrFun (hrr9 3 (by decide)) 1).trans hf1194
                  refine lv_if_eq (tgt := 83) hx hb dX13_drawVerse_71 (by decide) (fun c9 => ?_) (fun c9 => ?_)
                  · have hc1324 : v1318.toInt = 0 := (fi_eq rfl (show (0 : Int32).toInt = 0 by decide)).mp c9
                    obtain ⟨v1325, h_v1325, e_v1325⟩ := tk_inc v1221 1 (by decide) (by omega) (by omega)
                    refine lv_iinc (v := v1325) (lv' := [(3, .int v1325), (2, .int v1222), (1, .int v177), (0, .ref am)]) hx hb dX13_drawVerse_83 hl (k := 0) rfl e_v1325 (by decide) rfl (fun ls hl => ?_)
                    refine lv_goto (tgt := 52) hx hb dX13_drawVerse_86 (by decide) ?_
                    exact ih_l1315 v1325 v1222 _ _ _ _ _ _ (by omega) (by omega) (by omega) (by omega) hM hS hIF hIG hIR hFF hGG hRR hf1194 (by omega) _ (lv_sub hl [0, 1, 2, 3] rfl)
                  · have hc1324 : ¬ (v1318.toInt = 0) := fun h9 => c9 ((fi_eq rfl (show (0 : Int32).toInt = 0 by decide)).mpr h9)
                    refine lv_iload_n hx hb dX13_drawVerse_74 rfl (lv_at hl 1 rfl) ?_
                    refine lv_if_ne (tgt := 80) hx hb dX13_drawVerse_75 (by decide) (fun c9 => ?_) (fun c9 => ?_)
                    · have hc1326 : ¬ (v1222.toInt = 0) := fun h9 => c9 ((fi_eq rfl (show (0 : Int32).toInt = 0 by decide)).mpr h9)
                      obtain ⟨v1327, h_v1327, e_v1327⟩ := tk_inc v1222 (-1) (by decide) (by omega) (by omega)
                      refine lv_iinc (v := v1327) (lv' := [(2, .int v1327), (3, .int v1221), (1, .int v177), (0, .ref am)]) hx hb dX13_drawVerse_80 hl (k := 1) rfl e_v1327 (by decide) rfl (fun ls hl => ?_)
                      obtain ⟨v1328, h_v1328, e_v1328⟩ := tk_inc v1221 1 (by decide) (by omega) (by omega)
                      refine lv_iinc (v := v1328) (lv' := [(3, .int v1328), (2, .int v1327), (1, .int v177), (0, .ref am)]) hx hb dX13_drawVerse_83 hl (k := 1) rfl e_v1328 (by decide) rfl (fun ls hl => ?_)
                      refine lv_goto (tgt := 52) hx hb dX13_drawVerse_86 (by decide) ?_
                      exact ih_l1315 v1328 v1327 _ _ _ _ _ _ (by omega) (by omega) (by omega) (by omega) hM hS hIF hIG hIR hFF hGG hRR hf1194 (by omega) _ (lv_sub hl [0, 1, 2, 3] rfl)
                    · have hc1326 : v1222.toInt = 0 := (fi_eq rfl (show (0 : Int32).toInt = 0 by decide)).mp c9
                      refine lv_iload_n hx hb dX13_drawVerse_78 rfl (lv_at hl 0 rfl) ?_
                      exact mz_iret (v := v1221) hx hb hr rfl hlocks ⟨hIF, hIG, hIR, hFF, hRR, hGG, (by omega), (by omega)⟩ hM hS dX13_drawVerse_79
          have hk_0 : (0 : Int32).toInt = 0 := by decide
          exact hl1315 11 0 v1218 _ _ _ _ _ _ (by omega) (by omega) (by omega) (by omega) hM hS hIF hIG hIR hFF hGG hRR hf1194 (by omega) _ (lv_sub hl [0, 1, 2, 3] rfl)
        refine lv_if_ne (tgt := 44) hx hb dX13_drawVerse_37 (by decide) (fun c9 => ?_) (fun c9 => ?_)
        · have hc1209 : ¬ (v177.toInt = 0) := fun h9 => c9 ((fi_eq rfl (show (0 : Int32).toInt = 0 by decide)).mpr h9)
          refine lv_aload_n hx hb dX13_drawVerse_44 rfl (lv_at hl 2 rfl) ?_
          refine lv_iload_n hx hb dX13_drawVerse_45 rfl (lv_at hl 1 rfl) ?_
          refine mz_Vi (As := [.int v177]) (rest := []) ⟨hx, hb, hml, hown, hts⟩ hK hM hS (k_X13_draw l D cy ld ad am hD _ _ _ _ v177 hIF hIG hIR (by omega) (by omega)) ⟨callB_of 1 hts (wl_in mw_1385) rfl rfl rfl (htl _ mw_5) (htl _ mw_1382) hd_yX13_draw ⟨(Nat.le_of_ble_eq_true rfl), (Nat.le_of_ble_eq_true rfl)⟩, htl _ mw_1383, htl _ mw_1384⟩ rfl hl.1 rfl (Nat.le_of_ble_eq_true rfl) dX13_drawVerse_46 ⟨(Nat.le_of_ble_eq_true rfl), (Nat.le_of_ble_eq_true rfl)⟩ (fun v1329 H locs F G R S hpo hM hS => ?_)
          obtain ⟨hIF, hIG, hIR, hfr9, hrr9, hgr9, hpo1330, hpo1331, hpo1332, hpo1333⟩ := hpo
          have hq_v1329 := tk_rng v1329
          have hFF := mz_fr (K := [34, 38]) (Fa := Fa) hfr9 hFF (by decide)
          have hRR := mz_fr (K := []) (Fa := Ra) hrr9 hRR (by decide)
          have hGG := mz_fr (K := [39, 40, 47]) (Fa := Ga) hgr9 hGG (by decide)
          have hf1194 : R 3 1 = _ := (congrFun (hrr9 3 (by decide)) 1).trans hf1194
          exact hj1220 v1329 _ _ _ _ _ _ (by omega) (by omega) (by omega) hM hS hIF hIG hIR hFF hGG hRR hf1194 _ (lv_sub hl [1, 2] rfl)
        · have hc1209 : v177.toInt = 0 := (fi_eq rfl (show (0 : Int32).toInt = 0 by decide)).mp c9
          refine lv_iconst (v := 0) hx hb dX13_drawVerse_40 (by decide) ?_
          refine lv_goto (tgt := 49) hx hb dX13_drawVerse_41 (by decide) ?_
          have hk_0 : (0 : Int32).toInt = 0 := by decide
          exact hj1220 0 _ _ _ _ _ _ (by omega) (by omega) (by omega) hM hS hIF hIG hIR hFF hGG hRR hf1194 _ (lv_sub hl [1, 2] rfl)
      · have hc1196 : ¬ (v1195.toInt ≤ v176.toInt) := fun h9 => c9 ((fi_le rfl rfl).mpr h9)
        refine lv_iload_n hx hb dX13_drawVerse_14 rfl (lv_at hl 1 rfl) ?_
        refine lv_aload_n hx hb dX13_drawVerse_15 rfl (lv_at hl 2 rfl) ?_
        refine lv_iload_n hx hb dX13_drawVerse_16 rfl (lv_at hl 0 rfl) ?_
        refine mz_Vi (As := [.int v176]) (rest := [.int v177]) ⟨hx, hb, hml, hown, hts⟩ hK hM hS (k_X13_canSing l D cy ld ad am hD _ _ _ _ v176 hIF hIG hIR (by omega) (by omega)) ⟨callB_of 1 hts (wl_in mw_1326) rfl rfl rfl (htl _ mw_5) (htl _ mw_1323) hd_yX13_canSing ⟨(Nat.le_of_ble_eq_true rfl), (Nat.le_of_ble_eq_true rfl)⟩, htl _ mw_1324, htl _ mw_1325⟩ rfl hl.1 rfl (Nat.le_of_ble_eq_true rfl) dX13_drawVerse_17 ⟨(Nat.le_of_ble_eq_true rfl), (Nat.le_of_ble_eq_true rfl)⟩ (fun v1335 H locs F G R S hpo hM hS => ?_)
        obtain ⟨hIF, hIG, hIR, hfr9, hrr9, hgr9, hpo1336, hpo1337, hpo1338, hpo1339⟩ := hpo
        have hq_v1335 := tk_rng v1335
        have hFF := mz_fr (K := [34, 38]) (Fa := Fa) hfr9 hFF (by decide)
        have hRR := mz_fr (K := []) (Fa := Ra) hrr9 hRR (by decide)
        have hGG := mz_fr (K := [39, 40, 47]) (Fa := Ga) hgr9 hGG (by decide)
        have hf1194 : R 3 1 = _ := (congrFun (hrr9 3 (by decide)) 1).trans hf1194
        have hj1344 : ∀ (v1343 : Int32), (0 ≤ v1343.toInt) → (v1343.toInt ≤ 1) → ∀ ls : Array Slot, lv_has ls 4 [(2, .int v176), (0, .ref am)] → W p l e ({ frames := 10, cells := 0, slots := 0, locals := 630 }) s m args below meth c H locs 0 0 (MQ below (mz_i D cy ad am (fun r F G R S => mz_IF true F ∧ mz_IG G ∧ mz_IR [] true R ∧ (∀ k : Nat, k ∉ ([34, 38] : List Nat) → F k = Fa k) ∧ (∀ k : Nat, k ∉ ([] : List Nat) → R k = Ra k) ∧ (∀ k : Nat, k ∉ ([39, 40, 47] : List Nat) → G k = Ga k) ∧ (-1) ≤ r.toInt ∧ r.toInt ≤ 9)) args s 0 0 (mz_W ad am)) (F0 m 28 ls [.int v1343, .int v177]) := by
          intro v1343 hq0_j1344 hq1_j1344 ls hl
          refine lv_iadd hx hb dX13_drawVerse_28 ?_
          refine tk_add rfl rfl (by omega) (by omega) (fun v1345 h_v1345 => ?_)
          refine lv_istore_n (lv' := [(1, .int v1345), (2, .int v176), (0, .ref am)]) hx hb dX13_drawVerse_29 rfl hl (by decide) rfl (fun ls hl => ?_)
          obtain ⟨v1346, h_v1346, e_v1346⟩ := tk_inc v176 1 (by decide) (by omega) (by omega)
          refine lv_iinc (v := v1346) (lv' := [(2, .int v1346), (1, .int v1345), (0, .ref am)]) hx hb dX13_drawVerse_30 hl (k := 1) rfl e_v1346 (by decide) rfl (fun ls hl => ?_)
          refine lv_goto (tgt := 4) hx hb dX13_drawVerse_33 (by decide) ?_
          exact ih_l1193 v1346 v1345 _ _ _ _ _ _ (by omega) (by omega) (by omega) hM hS hIF hIG hIR hFF hGG hRR (by omega) _ (lv_sub hl [0, 1, 2] rfl)
        refine lv_if_eq (tgt := 27) hx hb dX13_drawVerse_20 (by decide) (fun c9 => ?_) (fun c9 => ?_)
        · have hc1341 : v1335.toInt = 0 := (fi_eq rfl (show (0 : Int32).toInt = 0 by decide)).mp c9
          refine lv_iconst (v := 0) hx hb dX13_drawVerse_27 (by decide) ?_
          have hk_0 : (0 : Int32).toInt = 0 := by decide
          exact hj1344 0 (by omega) (by omega) _ (lv_sub hl [0, 2] rfl)
        · have hc1341 : ¬ (v1335.toInt = 0) := fun h9 => c9 ((fi_eq rfl (show (0 : Int32).toInt = 0 by decide)).mpr h9)
          refine lv_iconst (v := 1) hx hb dX13_drawVerse_23 (by decide) ?_
          refine lv_goto (tgt := 28) hx hb dX13_drawVerse_24 (by decide) ?_
          have hk_1 : (1 : Int32).toInt = 1 := by decide
          exact hj1344 1 (by omega) (by omega) _ (lv_sub hl [0, 2] rfl)
  have hk_0 : (0 : Int32).toInt = 0 := by decide
  have hk_0 : (0 : Int32).toInt = 0 := by decide
  exact hl1193 11 0 0 _ _ _ _ _ _ (by omega) (by omega) (by omega) hM hS hIF hIG hIR (fun _ _ => rfl) (fun _ _ => rfl) (fun _ _ => rfl) (by omega) _ (lv_sub hl [0, 1, 2] rfl)
