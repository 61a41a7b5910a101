set_option maxHeartbeats 4000000 in
set_option maxRecDepth 100000 in
theorem k_X13_ofPiece_x (l : Launch) (D : va_G) (cy : Nat → ClassId) (ld ad : Nat → Nat) (am : Nat) (hD : mz_D ad am) (Fa : Nat → Int32) (Ga : Nat → Int64) (Ra : Nat → Nat → Int32) (Sa : Nat → Nat → Int64) (p1 : Int32) (p2 : Int32) (hIF : mz_IF false Fa) (hIG : mz_IG Ga) (hIR : mz_IR [] true Ra) (hp_0 : (-1) ≤ p1.toInt) (hp_1 : p1.toInt ≤ 10) (hp_2 : 0 ≤ p2.toInt) (hp_3 : p2.toInt ≤ 2) : Met l yX13_ofPiece (wl yX13_ofPiece cX13_ofPiece 3 (some .int)) ({ frames := 3, cells := 0, slots := 0, locals := 140 }) (mz_p D cy ld ad am Fa Ga Ra Sa [.ref am, .int p1, .int p2]) (mz_j D cy ad am Fa Ga Ra Sa (fun r => r = Ra 3 (78 + 3 * p1.toInt + p2.toInt).toNat)) 0 0 (mz_W ad am) := by
  refine mz_met (y := yX13_ofPiece) (cc := cX13_ofPiece) (maxL := 3) (ret := (some .int)) (av := [.ref am, .int p1, .int p2]) _ (by decide) (Nat.le_of_ble_eq_true rfl) ?_
  intro p e s m args below meth c hx hb hr hml hts htl hown hlocks hK H locs hM hS ls hl
  have hown : s.vm.findClass RX13 = some m.cls := hown
  have hl : lv_has ls 3 [(0, .ref am), (1, .int p1), (2, .int p2)] := hl
  have hr_p1 := tk_rng p1
  have hr_p2 := tk_rng p2
  refine lv_aload_n hx hb dX13_ofPiece_0 rfl (lv_at hl 0 rfl) ?_
  refine mz_getR hx hb htl hown hK hM 3 (Nat.le_of_ble_eq_true rfl) (Nat.le_of_ble_eq_true rfl) (htl _ mw_188) (fun _ h9 => h9) dX13_ofPiece_1 ?_
  refine lv_bipush (v := 78) hx hb dX13_ofPiece_4 (by decide) ?_
  refine lv_iconst (v := 3) hx hb dX13_ofPiece_6 (by decide) ?_
  refine lv_iload_n hx hb dX13_ofPiece_7 rfl (lv_at hl 1 rfl) ?_
  refine lv_imul hx hb dX13_ofPiece_8 ?_
  refine tk_mul (show (3 : Int32).toInt = 3 by decide) rfl (by omega) (by omega) (fun v1 h_v1 => ?_)
  refine lv_iadd hx hb dX13_ofPiece_9 ?_
  refine tk_add (show (78 : Int32).toInt = 78 by decide) rfl (by omega) (by omega) (fun v2 h_v2 => ?_)
  refine lv_iload_n hx hb dX13_ofPiece_10 rfl (lv_at hl 2 rfl) ?_
  refine lv_iadd hx hb dX13_ofPiece_11 ?_
  refine tk_add rfl rfl (by omega) (by omega) (fun v3 h_v3 => ?_)
  refine mz_iald hx hb hK hM 3 (Nat.le_of_ble_eq_true rfl) rfl (nn := 5560) rfl rfl (by omega) (by omega) dX13_ofPiece_12 (fun v4 e_v4 => ?_)
  have hq_v4 := tk_rng v4
  exact mz_jret (v := v4) hx hb hr rfl hlocks (by rw [show (78 + 3 * p1.toInt + p2.toInt).toNat = (v3 : Int32).toNatClampNeg by show _ = v3.toInt.toNat; omega]; exact (e_v4).symm) hM hS dX13_ofPiece_13
set_option maxHeartbeats 4000000 in
set_option maxRecDepth 100000 in
theorem k_X13_weighMade_x (l : Launch) (D : va_G) (cy : Nat → ClassId) (ld ad : Nat → Nat) (am : Nat) (hD : mz_D ad am) (Fa : Nat → Int32) (Ga : Nat → Int64) (Ra : Nat → Nat → Int32) (Sa : Nat → Nat → Int64) (p1 : Int32) (p2 : Int32) (g2 : Int32) (g58 : Int32) (g57 : Int32) (hIF : mz_IF true Fa) (hIG : mz_IG Ga) (hIR : mz_IR [] true Ra) (hg_0 : Ra 3 2 = g2) (hg_1 : Fa 58 = g58) (hg_2 : Fa 57 = g57) (hp_0 : 0 ≤ p1.toInt) (hp_1 : p1.toInt ≤ 3) (hx_0 : ∀ j : Nat, (j : Int) ≤ p1.toInt → 0 ≤ (Ra 55 j).toInt ∧ (Ra 55 j).toInt < g2.toInt) (hx_1 : ∀ j : Nat, (j : Int) < g2.toInt → (1 ≤ (Ra 3 (78 + 3 * j)).toInt ∧ (Ra 3 (78 + 3 * j)).toInt ≤ 99) ∧ 1 ≤ (Ra 3 (80 + 3 * j)).toInt ∧ (Ra 3 (80 + 3 * j)).toInt ≤ 9) : Met l yX13_weighMade (wl yX13_weighMade cX13_weighMade 7 (some .boolean)) ({ frames := 4, cells := 0, slots := 0, locals := 210 }) (mz_p D cy ld ad am Fa Ga Ra Sa [.ref am, .int p1, .int p2]) (mz_i D cy ad am (fun r F G R S => mz_IF true F ∧ mz_IG G ∧ mz_IR [] true R ∧ (∀ k : Nat, k ∉ ([57, 58] : List Nat) → F k = Fa k) ∧ (∀ k : Nat, k ∉ ([56] : List Nat) → R k = Ra k) ∧ (∀ k : Nat, k ∉ ([] : List Nat) → G k = Ga k) ∧ 0 ≤ r.toInt ∧ r.toInt ≤ 1 ∧ (1 ≤ r.toInt → mOk p2.toInt (mq g2.toInt (fun j => Ra 3 (80 + 3 * j))) (Ra 55) (p1.toInt.toNat + 1) ∧ ∀ C : Nat → Int32, mAB g57.toInt (Ra 56) C → ∃ E : Nat → Int32, mTop (mq g2.toInt (fun j => Ra 3 (78 + 3 * j))) (mq g2.toInt (fun j => Ra 3 (79 + 3 * j))) (p1.toInt.toNat + 1) (Ra 55) (g58.toInt, g57.toInt, C) = ((F 58).toInt, (F 57).toInt, E) ∧ mAB (F 57).toInt (R 56) E) ∧ (r.toInt ≤ 0 → ¬ mOk p2.toInt (mq g2.toInt (fun j => Ra 3 (80 + 3 * j))) (Ra 55) (p1.toInt.toNat + 1) ∧ F 58 = Fa 58 ∧ F 57 = Fa 57 ∧ R 56 = Ra 56))) 0 0 (mz_W ad am) := by
  refine mz_met (y := yX13_weighMade) (cc := cX13_weighMade) (maxL := 7) (ret := (some .boolean)) (av := [.ref am, .int p1, .int p2]) _ (by decide) (Nat.le_of_ble_eq_true rfl) ?_
  intro p e s m args below meth c hx hb hr hml hts htl hown hlocks hK H locs hM hS ls hl
  have hown : s.vm.findClass RX13 = some m.cls := hown
  have hl : lv_has ls 7 [(0, .ref am), (1, .int p1), (2, .int p2)] := hl
  have hr_p1 := tk_rng p1
  have hr_p2 := tk_rng p2
  have hq_g2 := tk_rng g2
  have hq_g58 := tk_rng g58
  have hq_g57 := tk_rng g57
  have hr_g2 : 0 ≤ g2.toInt ∧ g2.toInt ≤ 10 := by have h9 := mz_r3c 2 (hIR.at 3) hg_0 (by decide); unfold mE at h9; omega
  have hr_g57 : 0 ≤ g57.toInt ∧ g57.toInt ≤ 4 := hIF.at hg_2
  refine lv_iconst (v := 0) hx hb dX13_weighMade_0 (by decide) ?_
  refine lv_istore_n (lv' := [(3, .int 0), (0, .ref am), (1, .int p1), (2, .int p2)]) hx hb dX13_weighMade_1 rfl hl (by decide) rfl (fun ls hl => ?_)
  refine lv_iconst (v := 0) hx hb dX13_weighMade_2 (by decide) ?_
  refine lv_istore (lv' := [(4, .int 0), (3, .int 0), (0, .ref am), (1, .int p1), (2, .int p2)]) hx hb dX13_weighMade_3 hl (by decide) rfl (fun ls hl => ?_)
  refine lv_iconst (v := 0) hx hb dX13_weighMade_5 (by decide) ?_
  refine lv_istore (lv' := [(5, .int 0), (4, .int 0), (3, .int 0), (0, .ref am), (1, .int p1), (2, .int p2)]) hx hb dX13_weighMade_6 hl (by decide) rfl (fun ls hl => ?_)
  have hl2076 : ∀ (N_l2076 : Nat) (v398 : Int32) (v399 : Int32) (v400 : Int32) (H : Heap) (locs : List Loc), (0 ≤ p1.toInt + (-1) * v398.toInt + 1) → (0 ≤ (-1) * v398.toInt + v399.toInt) → (0 ≤ (-1) * v398.toInt + v400.toInt) → (0 ≤ 102 * v398.toInt + (-1) * v400.toInt) → (0 ≤ 9 * v398.toInt + (-1) * v399.toInt) → (mz_S D cy ad am Fa Ga Ra Sa H) → (va_S (mz_W ad am) s.heap H locs) → (v400.toInt = mS (mq g2.toInt (fun j => Ra 3 (78 + 3 * j))) (mq g2.toInt (fun j => Ra 3 (79 + 3 * j))) (Ra 55) v398.toInt.toNat) → (v399.toInt = mL (mq g2.toInt (fun j => Ra 3 (80 + 3 * j))) (Ra 55) v398.toInt.toNat) → (mD (Ra 55) v398.toInt.toNat) → ((-1) * v398.toInt + 4 < (N_l2076 : Int)) → ∀ ls : Array Slot, lv_has ls 7 [(5, .int v398), (4, .int v399), (3, .int v400), (0, .ref am), (1, .int p1), (2, .int p2)] → W p l e ({ frames := 4, cells := 0, slots := 0, locals := 210 }) s m args below meth c H locs 0 0 (MQ below (mz_i D cy ad am (fun r F G R S => mz_IF true F ∧ mz_IG G ∧ mz_IR [] true R ∧ (∀ k : Nat, k ∉ ([57, 58] : List Nat) → F k = Fa k) ∧ (∀ k : Nat, k ∉ ([56] : List Nat) → R k = Ra k) ∧ (∀ k : Nat, k ∉ ([] : List Nat) → G k = Ga k) ∧ 0 ≤ r.toInt ∧ r.toInt ≤ 1 ∧ (1 ≤ r.toInt → mOk p2.toInt (mq g2.toInt (fun j => Ra 3 (80 + 3 * j))) (Ra 55) (p1.toInt.toNat + 1) ∧ ∀ C : Nat → Int32, mAB g57.toInt (Ra 56) C → ∃ E : Nat → Int32, mTop (mq g2.toInt (fun j => Ra 3 (78 + 3 * j))) (mq g2.toInt (fun j => Ra 3 (79 + 3 * j))) (p1.toInt.toNat + 1) (Ra 55) (g58.toInt, g57.toInt, C) = ((F 58).toInt, (F 57).toInt, E) ∧ mAB (F 57).toInt (R 56) E) ∧ (r.toInt ≤ 0 → ¬ mOk p2.toInt (mq g2.toInt (fun j => Ra 3 (80 + 3 * j))) (Ra 55) (p1.toInt.toNat + 1) ∧ F 58 = Fa 58 ∧ F 57 = Fa 57 ∧ R 56 = Ra 56))) args s 0 0 (mz_W ad am)) (F0 m 8 ls []) := by
    intro N_l2076
    induction N_l2076 with
    | zero => intro v398 v399 v400 H locs hq0_l2076 hq1_l2076 hq2_l2076 hq3_l2076 hq4_l2076 hM hS hw1 hw2 hw3 hm_l2076 ls hl; exfalso; omega
    | succ N_l2076 ih_l2076 =>
      intro v398 v399 v400 H locs hq0_l2076 hq1_l2076 hq2_l2076 hq3_l2076 hq4_l2076 hM hS hw1 hw2 hw3 hm_l2076 ls hl
      refine lv_iload hx hb dX13_weighMade_8 (lv_at hl 0 rfl) ?_
      refine lv_iload_n hx hb dX13_weighMade_10 rfl (lv_at hl 4 rfl) ?_
      refine lv_icmp_gt (tgt := 127) hx hb dX13_weighMade_11 (by decide) (fun c9 => ?_) (fun c9 => ?_)
      · have hc2077 : p1.toInt < v398.toInt := (fi_lt rfl rfl).mp c9
        refine lv_iload hx hb dX13_weighMade_127 (lv_at hl 1 rfl) ?_
        refine lv_iload_n hx hb dX13_weighMade_129 rfl (lv_at hl 5 rfl) ?_
        refine lv_icmp_le (tgt := 135) hx hb dX13_weighMade_130 (by decide) (fun c9 => ?_) (fun c9 => ?_)
        · have hc2078 : v399.toInt ≤ p2.toInt := (fi_le rfl rfl).mp c9
          refine lv_iload_n hx hb dX13_weighMade_135 rfl (lv_at hl 2 rfl) ?_
          refine lv_aload_n hx hb dX13_weighMade_136 rfl (lv_at hl 3 rfl) ?_
          refine mz_getI hx hb htl hown hK hM 58 (Nat.le_of_ble_eq_true rfl) rfl (htl _ mw_1471) (fun _ h9 => h9) dX13_weighMade_137 (fun v9 e9 => ?_)
          refine fx_ti (v := g58) (e9.symm.trans hg_1) ?_
          refine lv_icmp_le (tgt := 184) hx hb dX13_weighMade_140 (by decide) (fun c9 => ?_) (fun c9 => ?_)
          · have hc2079 : v400.toInt ≤ g58.toInt := (fi_le rfl rfl).mp c9
            refine lv_iconst (v := 1) hx hb dX13_weighMade_184 (by decide) ?_
            have hk_1 : (1 : Int32).toInt = 1 := by decide
            have hk_1 : (1 : Int32).toInt = 1 := by decide
            exact mz_iret (v := 1) hx hb hr rfl hlocks ⟨hIF, hIG, hIR, (fun _ _ => rfl), (fun _ _ => rfl), (fun _ _ => rfl), (by omega), (by omega), ⟨(fun _ => ⟨⟨by rw [show p1.toInt.toNat + 1 = v398.toInt.toNat by omega]; exact hw3, by rw [show p1.toInt.toNat + 1 = v398.toInt.toNat by omega, ← hw2]; omega⟩, (fun C hC => ⟨C, by rw [hg_1, hg_2]; exact mTop_n (mAg.refl _ _) (Or.inr (by have h8 := (show v400.toInt = mS (mq g2.toInt (fun j => Ra 3 (78 + 3 * j))) (mq g2.toInt (fun j => Ra 3 (79 + 3 * j))) (Ra 55) (p1.toInt.toNat + 1) by rw [show p1.toInt.toNat + 1 = v398.toInt.toNat by omega]; exact hw1); omega)), by rw [hg_2]; exact hC⟩)⟩), (fun h9 => (show False by omega).elim)⟩⟩ hM hS dX13_weighMade_185
          · have hc2079 : ¬ (v400.toInt ≤ g58.toInt) := fun h9 => c9 ((fi_le rfl rfl).mpr h9)
            refine lv_aload_n hx hb dX13_weighMade_143 rfl (lv_at hl 3 rfl) ?_
            refine lv_iload_n hx hb dX13_weighMade_144 rfl (lv_at hl 2 rfl) ?_
            refine mz_putI (ty := .int) (x := v400) hx hb htl hown hK hD hM hS 58 (Nat.le_of_ble_eq_true rfl) rfl (htl _ mw_1471) (fun _ h9 => h9) rfl (tyX13_ok 58 (by decide)) rfl rfl dX13_weighMade_145 (fun H locs F hM hS hf9 hj9 => ?_)
            have hIF := hIF.put hf9 hj9 (tk_rng _).1 (tk_rng _).2 (by decide)
            have hFF := mz_frp (K := [57, 58]) (Fa := Fa) hj9 (fun _ _ => rfl) (by decide)
            have hg_2 := (hj9 57 (by decide)).trans hg_2
            have hf2081 := hf9
            refine lv_aload_n hx hb dX13_weighMade_148 rfl (lv_at hl 3 rfl) ?_
            refine lv_iload_n hx hb dX13_weighMade_149 rfl (lv_at hl 4 rfl) ?_
            refine lv_iconst (v := 1) hx hb dX13_weighMade_150 (by decide) ?_
            refine lv_iadd hx hb dX13_weighMade_151 ?_
            refine tk_add rfl (show (1 : Int32).toInt = 1 by decide) (by omega) (by omega) (fun v2082 h_v2082 => ?_)
            refine mz_putI (ty := .int) (x := v2082) hx hb htl hown hK hD hM hS 57 (Nat.le_of_ble_eq_true rfl) rfl (htl _ mw_1472) (fun _ h9 => h9) rfl (tyX13_ok 57 (by decide)) rfl rfl dX13_weighMade_152 (fun H locs F hM hS hf9 hj9 => ?_)
            have hIF := hIF.put hf9 hj9 (show 0 ≤ (v2082 : Int32).toInt by omega) (show (v2082 : Int32).toInt ≤ 4 by omega) (by decide)
            have hFF := mz_frp (K := [57, 58]) (Fa := Fa) hj9 hFF (by decide)
            have hf2081 := (hj9 58 (by decide)).trans hf2081
            have hf2084 := hf9
            refine lv_iconst (v := 0) hx hb dX13_weighMade_155 (by decide) ?_
            refine lv_istore (lv' := [(5, .int 0), (4, .int v399), (3, .int v400), (0, .ref am), (1, .int p1), (2, .int p2)]) hx hb dX13_weighMade_156 hl (by decide) rfl (fun ls hl => ?_)
            have hl2114 : ∀ (N_l2114 : Nat) (v2085 : Int32) (H : Heap) (locs : List Loc) (R : Nat → Nat → Int32), (0 ≤ v2082.toInt + (-1) * v2085.toInt) → (0 ≤ v2085.toInt) → (mz_S D cy ad am F Ga R Sa H) → (va_S (mz_W ad am) s.heap H locs) → (mz_IR [] true R) → (∀ k : Nat, k ∉ ([56] : List Nat) → R k = Ra k) → (R 3 2 = g2) → (∀ j : Nat, (j : Int) < v2085.toInt → R 56 j = Ra 55 j) → ((-1) * v2085.toInt + 4 < (N_l2114 : Int)) → ∀ ls : Array Slot, lv_has ls 7 [(5, .int v2085), (0, .ref am), (1, .int p1)] → W p l e ({ frames := 4, cells := 0, slots := 0, locals := 210 }) s m args below meth c H locs 0 0 (MQ below (mz_i D cy ad am (fun r F G R S => mz_IF true F ∧ mz_IG G ∧ mz_IR [] true R ∧ (∀ k : Nat, k ∉ ([57, 58] : List Nat) → F k = Fa k) ∧ (∀ k : Nat, k ∉ ([56] : List Nat) → R k = Ra k) ∧ (∀ k : Nat, k ∉ ([] : List Nat) → G k = Ga k) ∧ 0 ≤ r.toInt ∧ r.toInt ≤ 1 ∧ (1 ≤ r.toInt → mOk p2.toInt (mq g2.toInt (fun j => Ra 3 (80 + 3 * j))) (Ra 55) (p1.toInt.toNat + 1) ∧ ∀ C : Nat → Int32, mAB g57.toInt (Ra 56) C → ∃ E : Nat → Int32, mTop (mq g2.toInt (fun j => Ra 3 (78 + 3 * j))) (mq g2.toInt (fun j => Ra 3 (79 + 3 * j))) (p1.toInt.toNat + 1) (Ra 55) (g58.toInt, g57.toInt, C) = ((F 58).toInt, (F 57).toInt, E) ∧ mAB (F 57).toInt (R 56) E) ∧ (r.toInt ≤ 0 → ¬ mOk p2.toInt (mq g2.toInt (fun j => Ra 3 (80 + 3 * j))) (Ra 55) (p1.toInt.toNat + 1) ∧ F 58 = Fa 58 ∧ F 57 = Fa 57 ∧ R 56 = Ra 56))) args s 0 0 (mz_W ad am)) (F0 m 158 ls []) := by
              intro N_l2114
              induction N_l2114 with
              | zero => intro v2085 H locs R hq0_l2114 hq1_l2114 hM hS hIR hRR hg_0 hcb hm_l2114 ls hl; exfalso; omega
              | succ N_l2114 ih_l2114 =>
                intro v2085 H locs R hq0_l2114 hq1_l2114 hM hS hIR hRR hg_0 hcb hm_l2114 ls hl
                refine lv_iload hx hb dX13_weighMade_158 (lv_at hl 0 rfl) ?_
                refine lv_iload_n hx hb dX13_weighMade_160 rfl (lv_at hl 2 rfl) ?_
                refine lv_icmp_gt (tgt := 184) hx hb dX13_weighMade_161 (by decide) (fun c9 => ?_) (fun c9 => ?_)
                · have hc2115 : p1.toInt < v2085.toInt := (fi_lt rfl rfl).mp c9
                  refine lv_iconst (v := 1) hx hb dX13_weighMade_184 (by decide) ?_
                  have hk_1 : (1 : Int32).toInt = 1 := by decide
                  have hk_1 : (1 : Int32).toInt = 1 := by decide
                  exact mz_iret (v := 1) hx hb hr rfl hlocks ⟨hIF, hIG, hIR, hFF, hRR, (fun _ _ => rfl), (by omega), (by omega), ⟨(fun _ => ⟨⟨by rw [show p1.toInt.toNat + 1 = v398.toInt.toNat by omega]; exact hw3, by rw [show p1.toInt.toNat + 1 = v398.toInt.toNat by omega, ← hw2]; omega⟩, (fun C hC => ⟨Ra 55, by rw [hf2081, hf2084, show v2082.toInt = ((p1.toInt.toNat + 1 : Nat) : Int) by omega]; exact mTop_y (B := C) (Nat.succ_ne_zero _) (mAg.refl _ _) (show v400.toInt = mS (mq g2.toInt (fun j => Ra 3 (78 + 3 * j))) (mq g2.toInt (fun j => Ra 3 (79 + 3 * j))) (Ra 55) (p1.toInt.toNat + 1) by rw [show p1.toInt.toNat + 1 = v398.toInt.toNat by omega]; exact hw1) (by omega), by rw [hf2084]; exact fun j hj => hcb j (by omega)⟩)⟩), (fun h9 => (show False by omega).elim)⟩⟩ hM hS dX13_weighMade_185
                · have hc2115 : ¬ (p1.toInt < v2085.toInt) := fun h9 => c9 ((fi_lt rfl rfl).mpr h9)
                  refine lv_aload_n hx hb dX13_weighMade_164 rfl (lv_at hl 1 rfl) ?_
                  refine mz_getR hx hb htl hown hK hM 56 (Nat.le_of_ble_eq_true rfl) (Nat.le_of_ble_eq_true rfl) (htl _ mw_237) (fun _ h9 => h9) dX13_weighMade_165 ?_
                  refine lv_iload hx hb dX13_weighMade_168 (lv_at hl 0 rfl) ?_
                  refine lv_aload_n hx hb dX13_weighMade_170 rfl (lv_at hl 1 rfl) ?_
                  refine mz_getR hx hb htl hown hK hM 55 (Nat.le_of_ble_eq_true rfl) (Nat.le_of_ble_eq_true rfl) (htl _ mw_236) (fun _ h9 => h9) dX13_weighMade_171 ?_
                  refine lv_iload hx hb dX13_weighMade_174 (lv_at hl 0 rfl) ?_
                  refine mz_iald hx hb hK hM 55 (Nat.le_of_ble_eq_true rfl) rfl (nn := 4) rfl rfl (by omega) (by omega) dX13_weighMade_176 (fun v2116 e_v2116 => ?_)
                  have hq_v2116 := tk_rng v2116
                  refine mz_iast (x := v2116) hx hb hK hD hM hS 56 (Nat.le_of_ble_eq_true rfl) rfl (nn := 4) rfl rfl (by omega) (by omega) dX13_weighMade_177 (fun H locs R hM hS hw9 hj9 => ?_)
                  have hIR := hIR.put hw9 hj9 trivial
                  have hcb : ∀ j : Nat, (j : Int) < v2085.toInt + 1 → R 56 j = Ra 55 j := fun j hj => if e9 : (j : Int) = v2085.toInt then (by have e8 : (v2085 : Int32).toNatClampNeg = v2085.toInt.toNat := rfl; have e7 : Ra 55 (v2085 : Int32).toNatClampNeg = v2116 := (congrFun (hRR 55 (by decide)) _).symm.trans e_v2116; rw [hw9, show j = v2085.toInt.toNat by omega, ← e8, pk_us, e7]) else (by have e8 : (v2085 : Int32).toNatClampNeg = v2085.toInt.toNat := rfl; rw [hw9, pk_un (by omega)]; exact hcb j (by omega))
                  have hRR := mz_frp (K := [56]) (Fa := Ra) hj9 hRR (by decide)
                  have e_v2116 : R 55 (v2085 : Int32).toNatClampNeg = _ := (congrFun (hj9 55 (by decide)) _).trans e_v2116
                  have hg_0 : R 3 2 = _ := (congrFun (hj9 3 (by decide)) 2).trans hg_0
                  obtain ⟨v2118, h_v2118, e_v2118⟩ := tk_inc v2085 1 (by decide) (by omega) (by omega)
                  refine lv_iinc (v := v2118) (lv' := [(5, .int v2118), (0, .ref am), (1, .int p1)]) hx hb dX13_weighMade_178 hl (k := 0) rfl e_v2118 (by decide) rfl (fun ls hl => ?_)
                  refine lv_goto (tgt := 158) hx hb dX13_weighMade_181 (by decide) ?_
                  exact ih_l2114 v2118 _ _ _ (by omega) (by omega) hM hS hIR hRR hg_0 (fun j hj => hcb j (by omega)) (by omega) _ (lv_sub hl [0, 1, 2] rfl)
            have hk_0 : (0 : Int32).toInt = 0 := by decide
            have hk_0 : (0 : Int32).toInt = 0 := by decide
            exact hl2114 5 0 _ _ _ (by omega) (by omega) hM hS hIR (fun _ _ => rfl) hg_0 (fun j hj => absurd hj (by omega)) (by omega) _ (lv_sub hl [0, 3, 4] rfl)
        · have hc2078 : ¬ (v399.toInt ≤ p2.toInt) := fun h9 => c9 ((fi_le rfl rfl).mpr h9)
          refine lv_iconst (v := 0) hx hb dX13_weighMade_133 (by decide) ?_
          have hk_0 : (0 : Int32).toInt = 0 := by decide
          have hk_0 : (0 : Int32).toInt = 0 := by decide
          exact mz_iret (v := 0) hx hb hr rfl hlocks ⟨hIF, hIG, hIR, (fun _ _ => rfl), (fun _ _ => rfl), (fun _ _ => rfl), (by omega), (by omega), ⟨(fun h9 => (show False by omega).elim), (fun _ => ⟨(fun h9 => by have h8 := h9.2; rw [show p1.toInt.toNat + 1 = v398.toInt.toNat by omega, ← hw2] at h8; omega), rfl, rfl, rfl⟩)⟩⟩ hM hS dX13_weighMade_134
      · have hc2077 : ¬ (p1.toInt < v398.toInt) := fun h9 => c9 ((fi_lt rfl rfl).mpr h9)
        refine lv_iconst (v := 0) hx hb dX13_weighMade_14 (by decide) ?_
        refine lv_istore (lv' := [(6, .int 0), (5, .int v398), (4, .int v399), (3, .int v400), (0, .ref am), (1, .int p1), (2, .int p2)]) hx hb dX13_weighMade_15 hl (by decide) rfl (fun ls hl => ?_)
        have hl2336 : ∀ (N_l2336 : Nat) (v2119 : Int32), (0 ≤ v2119.toInt) → (0 ≤ (-1) * v2119.toInt + v398.toInt) → (∀ j : Nat, (j : Int) < v2119.toInt → (Ra 55 j).toInt ≠ (Ra 55 v398.toInt.toNat).toInt) → ((-1) * v2119.toInt + 3 < (N_l2336 : Int)) → ∀ ls : Array Slot, lv_has ls 7 [(6, .int v2119), (5, .int v398), (4, .int v399), (3, .int v400), (0, .ref am), (1, .int p1), (2, .int p2)] → W p l e ({ frames := 4, cells := 0, slots := 0, locals := 210 }) s m args below meth c H locs 0 0 (MQ below (mz_i D cy ad am (fun r F G R S => mz_IF true F ∧ mz_IG G ∧ mz_IR [] true R ∧ (∀ k : Nat, k ∉ ([57, 58] : List Nat) → F k = Fa k) ∧ (∀ k : Nat, k ∉ ([56] : List Nat) → R k = Ra k) ∧ (∀ k : Nat, k ∉ ([] : List Nat) → G k = Ga k) ∧ 0 ≤ r.toInt ∧ r.toInt ≤ 1 ∧ (1 ≤ r.toInt → mOk p2.toInt (mq g2.toInt (fun j => Ra 3 (80 + 3 * j))) (Ra 55) (p1.toInt.toNat + 1) ∧ ∀ C : Nat → Int32, mAB g57.toInt (Ra 56) C → ∃ E : Nat → Int32, mTop (mq g2.toInt (fun j => Ra 3 (78 + 3 * j))) (mq g2.toInt (fun j => Ra 3 (79 + 3 * j))) (p1.toInt.toNat + 1) (Ra 55) (g58.toInt, g57.toInt, C) = ((F 58).toInt, (F 57).toInt, E) ∧ mAB (F 57).toInt (R 56) E) ∧ (r.toInt ≤ 0 → ¬ mOk p2.toInt (mq g2.toInt (fun j => Ra 3 (80 + 3 * j))) (Ra 55) (p1.toInt.toNat + 1) ∧ F 58 = Fa 58 ∧ F 57 = Fa 57 ∧ R 56 = Ra 56))) args s 0 0 (mz_W ad am)) (F0 m 17 ls []) := by
          intro N_l2336
          induction N_l2336 with
          | zero => intro v2119 hq0_l2336 hq1_l2336 hw4 hm_l2336 ls hl; exfalso; omega
          | succ N_l2336 ih_l2336 =>
            intro v2119 hq0_l2336 hq1_l2336 hw4 hm_l2336 ls hl
            refine lv_iload hx hb dX13_weighMade_17 (lv_at hl 0 rfl) ?_
            refine lv_iload hx hb dX13_weighMade_19 (lv_at hl 1 rfl) ?_
            refine lv_icmp_ge (tgt := 49) hx hb dX13_weighMade_21 (by decide) (fun c9 => ?_) (fun c9 => ?_)
            · have hc2337 : v398.toInt ≤ v2119.toInt := (fi_le rfl rfl).mp c9
              refine lv_iload_n hx hb dX13_weighMade_49 rfl (lv_at hl 3 rfl) ?_
              refine lv_aload_n hx hb dX13_weighMade_50 rfl (lv_at hl 4 rfl) ?_
              refine lv_aload_n hx hb dX13_weighMade_51 rfl (lv_at hl 4 rfl) ?_
              refine mz_getR hx hb htl hown hK hM 55 (Nat.le_of_ble_eq_true rfl) (Nat.le_of_ble_eq_true rfl) (htl _ mw_236) (fun _ h9 => h9) dX13_weighMade_52 ?_
              refine lv_iload hx hb dX13_weighMade_55 (lv_at hl 1 rfl) ?_
              refine mz_iald hx hb hK hM 55 (Nat.le_of_ble_eq_true rfl) rfl (nn := 4) rfl rfl (by omega) (by omega) dX13_weighMade_57 (fun v2338 e_v2338 => ?_)
              have hq_v2338 := tk_rng v2338
              have hch_v2338 : 0 ≤ v2338.toInt ∧ v2338.toInt < g2.toInt := by have h9 := hx_0 v398.toInt.toNat (by omega); rw [show Ra 55 v398.toInt.toNat = v2338 from e_v2338] at h9; exact h9
              refine lv_iconst (v := 0) hx hb dX13_weighMade_58 (by decide) ?_
              have hk_0 : (0 : Int32).toInt = 0 := by decide
              refine mz_Vj (As := [.int v2338, .int 0]) (rest := [.int v400]) ⟨hx, hb, hml, hown, hts⟩ hK hM hS (k_X13_ofPiece_x l D cy ld ad am hD _ _ _ _ v2338 0 (hIF.weak) hIG hIR (by omega) (by omega) (by omega) (by omega)) ⟨callB_of 2 hts (wl_in mw_1480) rfl rfl rfl (htl _ mw_5) (htl _ mw_1477) hd_yX13_ofPiece ⟨(Nat.le_of_ble_eq_true rfl), (Nat.le_of_ble_eq_true rfl)⟩, htl _ mw_1478, htl _ mw_1479⟩ rfl hl.1 rfl (Nat.le_of_ble_eq_true rfl) dX13_weighMade_59 ⟨(Nat.le_of_ble_eq_true rfl), (Nat.le_of_ble_eq_true rfl)⟩ (fun v2339 H locs hpo hM hS => ?_)
              have hx2340 := hpo
              have hq_v2339 := tk_rng v2339
              have hpc_v2339 : 1 ≤ v2339.toInt ∧ v2339.toInt ≤ 99 := by have h9 := (hx_1 v2338.toInt.toNat (by omega)).1; rw [show 78 + 3 * v2338.toInt.toNat = (78 + 3 * v2338.toInt + (0 : Int32).toInt).toNat by (have h8 : (0 : Int32).toInt = 0 := by decide); omega, ← hx2340] at h9; exact h9
              refine lv_iload hx hb dX13_weighMade_62 (lv_at hl 1 rfl) ?_
              refine lv_if_le (tgt := 100) hx hb dX13_weighMade_64 (by decide) (fun c9 => ?_) (fun c9 => ?_)
              · have hc2342 : v398.toInt ≤ 0 := (fi_le rfl (show (0 : Int32).toInt = 0 by decide)).mp c9
                refine lv_iconst (v := 0) hx hb dX13_weighMade_100 (by decide) ?_
                refine lv_iadd hx hb dX13_weighMade_101 ?_
                refine tk_add rfl (show (0 : Int32).toInt = 0 by decide) (by omega) (by omega) (fun v2343 h_v2343 => ?_)
                refine lv_iadd hx hb dX13_weighMade_102 ?_
                refine tk_add rfl rfl (by omega) (by omega) (fun v2344 h_v2344 => ?_)
                refine lv_istore_n (lv' := [(3, .int v2344), (6, .int v2119), (5, .int v398), (4, .int v399), (0, .ref am), (1, .int p1), (2, .int p2)]) hx hb dX13_weighMade_103 rfl hl (by decide) rfl (fun ls hl => ?_)
                refine lv_iload hx hb dX13_weighMade_104 (lv_at hl 3 rfl) ?_
                refine lv_aload_n hx hb dX13_weighMade_106 rfl (lv_at hl 4 rfl) ?_
                refine lv_aload_n hx hb dX13_weighMade_107 rfl (lv_at hl 4 rfl) ?_
                refine mz_getR hx hb htl hown hK hM 55 (Nat.le_of_ble_eq_true rfl) (Nat.le_of_ble_eq_true rfl) (htl _ mw_236) (fun _ h9 => h9) dX13_weighMade_108 ?_
                refine lv_iload hx hb dX13_weighMade_111 (lv_at hl 2 rfl) ?_
                refine mz_iald hx hb hK hM 55 (Nat.le_of_ble_eq_true rfl) rfl (nn := 4) rfl rfl (by omega) (by omega) dX13_weighMade_113 (fun v9 e9 => ?_)
                refine fx_ti (v := v2338) (e9.symm.trans e_v2338) ?_
                refine lv_iconst (v := 2) hx hb dX13_weighMade_114 (by decide) ?_
                have hk_2 : (2 : Int32).toInt = 2 := by decide
                refine mz_Vj (As := [.int v2338, .int 2]) (rest := [.int v399]) ⟨hx, hb, hml, hown, hts⟩ hK hM hS (k_X13_ofPiece_x l D cy ld ad am hD _ _ _ _ v2338 2 (hIF.weak) hIG hIR (by omega) (by omega) (by omega) (by omega)) ⟨callB_of 2 hts (wl_in mw_1480) rfl rfl rfl (htl _ mw_5) (htl _ mw_1477) hd_yX13_ofPiece ⟨(Nat.le_of_ble_eq_true rfl), (Nat.le_of_ble_eq_true rfl)⟩, htl _ mw_1478, htl _ mw_1479⟩ rfl hl.1 rfl (Nat.le_of_ble_eq_true rfl) dX13_weighMade_115 ⟨(Nat.le_of_ble_eq_true rfl), (Nat.le_of_ble_eq_true rfl)⟩ (fun v2345 H locs hpo hM hS => ?_)
                have hx2346 := hpo
                have hq_v2345 := tk_rng v2345
                have hpc_v2345 : 1 ≤ v2345.toInt ∧ v2345.toInt ≤ 9 := by have h9 := (hx_1 v2338.toInt.toNat (by omega)).2; rw [show 80 + 3 * v2338.toInt.toNat = (78 + 3 * v2338.toInt + (2 : Int32).toInt).toNat by (have h8 : (2 : Int32).toInt = 2 := by decide); omega, ← hx2346] at h9; exact h9
                refine lv_iadd hx hb dX13_weighMade_118 ?_
                refine tk_add rfl rfl (by omega) (by omega) (fun v2348 h_v2348 => ?_)
                refine lv_istore (lv' := [(4, .int v2348), (3, .int v2344), (6, .int v2119), (5, .int v398), (0, .ref am), (1, .int p1), (2, .int p2)]) hx hb dX13_weighMade_119 hl (by decide) rfl (fun ls hl => ?_)
                obtain ⟨v2349, h_v2349, e_v2349⟩ := tk_inc v398 1 (by decide) (by omega) (by omega)
                refine lv_iinc (v := v2349) (lv' := [(5, .int v2349), (4, .int v2348), (3, .int v2344), (6, .int v2119), (0, .ref am), (1, .int p1), (2, .int p2)]) hx hb dX13_weighMade_121 hl (k := 3) rfl e_v2349 (by decide) rfl (fun ls hl => ?_)
                refine lv_goto (tgt := 8) hx hb dX13_weighMade_124 (by decide) ?_
                exact ih_l2076 v2349 v2348 v2344 _ _ (by omega) (by omega) (by omega) (by omega) (by omega) hM hS (mS_next (v := v2339) hw1 (by omega) (by rw [(show Ra 55 v398.toInt.toNat = v2338 from e_v2338)]; exact (mq_pc hx2340 (show (0 : Int32).toInt = ((0 : Nat) : Int) by decide) rfl (by omega) (by omega))) (mBon_i0 (by omega)) (by omega)) (mL_next (v := v2345) hw2 (by omega) (by rw [(show Ra 55 v398.toInt.toNat = v2338 from e_v2338)]; exact (mq_pc hx2346 (show (2 : Int32).toInt = ((2 : Nat) : Int) by decide) rfl (by omega) (by omega))) (by omega)) (mD_next hw3 (by omega) (fun j hj => hw4 j (by omega))) (by omega) _ (lv_sub hl [0, 1, 2, 4, 5, 6] rfl)
              · have hc2342 : ¬ (v398.toInt ≤ 0) := fun h9 => c9 ((fi_le rfl (show (0 : Int32).toInt = 0 by decide)).mpr h9)
                refine lv_aload_n hx hb dX13_weighMade_67 rfl (lv_at hl 4 rfl) ?_
                refine lv_aload_n hx hb dX13_weighMade_68 rfl (lv_at hl 4 rfl) ?_
                refine mz_getR hx hb htl hown hK hM 55 (Nat.le_of_ble_eq_true rfl) (Nat.le_of_ble_eq_true rfl) (htl _ mw_236) (fun _ h9 => h9) dX13_weighMade_69 ?_
                refine lv_iload hx hb dX13_weighMade_72 (lv_at hl 1 rfl) ?_
                refine mz_iald hx hb hK hM 55 (Nat.le_of_ble_eq_true rfl) rfl (nn := 4) rfl rfl (by omega) (by omega) dX13_weighMade_74 (fun v9 e9 => ?_)
                refine fx_ti (v := v2338) (e9.symm.trans e_v2338) ?_
                refine lv_iconst (v := 1) hx hb dX13_weighMade_75 (by decide) ?_
                have hk_1 : (1 : Int32).toInt = 1 := by decide
                refine mz_Vj (As := [.int v2338, .int 1]) (rest := [.int v2339, .int v400]) ⟨hx, hb, hml, hown, hts⟩ hK hM hS (k_X13_ofPiece_x l D cy ld ad am hD _ _ _ _ v2338 1 (hIF.weak) hIG hIR (by omega) (by omega) (by omega) (by omega)) ⟨callB_of 2 hts (wl_in mw_1480) rfl rfl rfl (htl _ mw_5) (htl _ mw_1477) hd_yX13_ofPiece ⟨(Nat.le_of_ble_eq_true rfl), (Nat.le_of_ble_eq_true rfl)⟩, htl _ mw_1478, htl _ mw_1479⟩ rfl hl.1 rfl (Nat.le_of_ble_eq_true rfl) dX13_weighMade_76 ⟨(Nat.le_of_ble_eq_true rfl), (Nat.le_of_ble_eq_true rfl)⟩ (fun v2350 H locs hpo hM hS => ?_)
                have hx2351 := hpo
                have hq_v2350 := tk_rng v2350
                refine lv_aload_n hx hb dX13_weighMade_79 rfl (lv_at hl 4 rfl) ?_
                refine lv_aload_n hx hb dX13_weighMade_80 rfl (lv_at hl 4 rfl) ?_
                refine mz_getR hx hb htl hown hK hM 55 (Nat.le_of_ble_eq_true rfl) (Nat.le_of_ble_eq_true rfl) (htl _ mw_236) (fun _ h9 => h9) dX13_weighMade_81 ?_
                refine lv_iload hx hb dX13_weighMade_84 (lv_at hl 1 rfl) ?_
                refine lv_iconst (v := 1) hx hb dX13_weighMade_86 (by decide) ?_
                refine lv_isub hx hb dX13_weighMade_87 ?_
                refine tk_sub rfl (show (1 : Int32).toInt = 1 by decide) (by omega) (by omega) (fun v2353 h_v2353 => ?_)
                refine mz_iald hx hb hK hM 55 (Nat.le_of_ble_eq_true rfl) rfl (nn := 4) rfl rfl (by omega) (by omega) dX13_weighMade_88 (fun v2354 e_v2354 => ?_)
                have hq_v2354 := tk_rng v2354
                have hch_v2354 : 0 ≤ v2354.toInt ∧ v2354.toInt < g2.toInt := by have h9 := hx_0 v2353.toInt.toNat (by omega); rw [show Ra 55 v2353.toInt.toNat = v2354 from e_v2354] at h9; exact h9
                refine lv_iconst (v := 1) hx hb dX13_weighMade_89 (by decide) ?_
                have hk_1 : (1 : Int32).toInt = 1 := by decide
                refine mz_Vj (As := [.int v2354, .int 1]) (rest := [.int v2350, .int v2339, .int v400]) ⟨hx, hb, hml, hown, hts⟩ hK hM hS (k_X13_ofPiece_x l D cy ld ad am hD _ _ _ _ v2354 1 (hIF.weak) hIG hIR (by omega) (by omega) (by omega) (by omega)) ⟨callB_of 2 hts (wl_in mw_1480) rfl rfl rfl (htl _ mw_5) (htl _ mw_1477) hd_yX13_ofPiece ⟨(Nat.le_of_ble_eq_true rfl), (Nat.le_of_ble_eq_true rfl)⟩, htl _ mw_1478, htl _ mw_1479⟩ rfl hl.1 rfl (Nat.le_of_ble_eq_true rfl) dX13_weighMade_90 ⟨(Nat.le_of_ble_eq_true rfl), (Nat.le_of_ble_eq_true rfl)⟩ (fun v2355 H locs hpo hM hS => ?_)
                have hx2356 := hpo
                have hq_v2355 := tk_rng v2355
                refine lv_icmp_ne (tgt := 100) hx hb dX13_weighMade_93 (by decide) (fun c9 => ?_) (fun c9 => ?_)
                · have hc2358 : ¬ (v2350.toInt = v2355.toInt) := fun h9 => c9 ((fi_eq rfl rfl).mpr h9)
                  refine lv_iconst (v := 0) hx hb dX13_weighMade_100 (by decide) ?_
                  refine lv_iadd hx hb dX13_weighMade_101 ?_
                  refine tk_add rfl (show (0 : Int32).toInt = 0 by decide) (by omega) (by omega) (fun v2359 h_v2359 => ?_)
                  refine lv_iadd hx hb dX13_weighMade_102 ?_
                  refine tk_add rfl rfl (by omega) (by omega) (fun v2360 h_v2360 => ?_)
                  refine lv_istore_n (lv' := [(3, .int v2360), (6, .int v2119), (5, .int v398), (4, .int v399), (0, .ref am), (1, .int p1), (2, .int p2)]) hx hb dX13_weighMade_103 rfl hl (by decide) rfl (fun ls hl => ?_)
                  refine lv_iload hx hb dX13_weighMade_104 (lv_at hl 3 rfl) ?_
                  refine lv_aload_n hx hb dX13_weighMade_106 rfl (lv_at hl 4 rfl) ?_
                  refine lv_aload_n hx hb dX13_weighMade_107 rfl (lv_at hl 4 rfl) ?_
                  refine mz_getR hx hb htl hown hK hM 55 (Nat.le_of_ble_eq_true rfl) (Nat.le_of_ble_eq_true rfl) (htl _ mw_236) (fun _ h9 => h9) dX13_weighMade_108 ?_
                  refine lv_iload hx hb dX13_weighMade_111 (lv_at hl 2 rfl) ?_
                  refine mz_iald hx hb hK hM 55 (Nat.le_of_ble_eq_true rfl) rfl (nn := 4) rfl rfl (by omega) (by omega) dX13_weighMade_113 (fun v9 e9 => ?_)
                  refine fx_ti (v := v2338) (e9.symm.trans e_v2338) ?_
                  refine lv_iconst (v := 2) hx hb dX13_weighMade_114 (by decide) ?_
                  have hk_2 : (2 : Int32).toInt = 2 := by decide
                  refine mz_Vj (As := [.int v2338, .int 2]) (rest := [.int v399]) ⟨hx, hb, hml, hown, hts⟩ hK hM hS (k_X13_ofPiece_x l D cy ld ad am hD _ _ _ _ v2338 2 (hIF.weak) hIG hIR (by omega) (by omega) (by omega) (by omega)) ⟨callB_of 2 hts (wl_in mw_1480) rfl rfl rfl (htl _ mw_5) (htl _ mw_1477) hd_yX13_ofPiece ⟨(Nat.le_of_ble_eq_true rfl), (Nat.le_of_ble_eq_true rfl)⟩, htl _ mw_1478, htl _ mw_1479⟩ rfl hl.1 rfl (Nat.le_of_ble_eq_true rfl) dX13_weighMade_115 ⟨(Nat.le_of_ble_eq_true rfl), (Nat.le_of_ble_eq_true rfl)⟩ (fun v2361 H locs hpo hM hS => ?_)
                  have hx2362 := hpo
                  have hq_v2361 := tk_rng v2361
                  have hpc_v2361 : 1 ≤ v2361.toInt ∧ v2361.toInt ≤ 9 := by have h9 := (hx_1 v2338.toInt.toNat (by omega)).2; rw [show 80 + 3 * v2338.toInt.toNat = (78 + 3 * v2338.toInt + (2 : Int32).toInt).toNat by (have h8 : (2 : Int32).toInt = 2 := by decide); omega, ← hx2362] at h9; exact h9
                  refine lv_iadd hx hb dX13_weighMade_118 ?_
                  refine tk_add rfl rfl (by omega) (by omega) (fun v2364 h_v2364 => ?_)
                  refine lv_istore (lv' := [(4, .int v2364), (3, .int v2360), (6, .int v2119), (5, .int v398), (0, .ref am), (1, .int p1), (2, .int p2)]) hx hb dX13_weighMade_119 hl (by decide) rfl (fun ls hl => ?_)
                  obtain ⟨v2365, h_v2365, e_v2365⟩ := tk_inc v398 1 (by decide) (by omega) (by omega)
                  refine lv_iinc (v := v2365) (lv' := [(5, .int v2365), (4, .int v2364), (3, .int v2360), (6, .int v2119), (0, .ref am), (1, .int p1), (2, .int p2)]) hx hb dX13_weighMade_121 hl (k := 3) rfl e_v2365 (by decide) rfl (fun ls hl => ?_)
                  refine lv_goto (tgt := 8) hx hb dX13_weighMade_124 (by decide) ?_
                  exact ih_l2076 v2365 v2364 v2360 _ _ (by omega) (by omega) (by omega) (by omega) (by omega) hM hS (mS_next (v := v2339) hw1 (by omega) (by rw [(show Ra 55 v398.toInt.toNat = v2338 from e_v2338)]; exact (mq_pc hx2340 (show (0 : Int32).toInt = ((0 : Nat) : Int) by decide) rfl (by omega) (by omega))) (mBon_in (by rw [(show Ra 55 v398.toInt.toNat = v2338 from e_v2338), show v398.toInt.toNat - 1 = v2353.toInt.toNat by omega, show Ra 55 v2353.toInt.toNat = v2354 from e_v2354, (mq_pc hx2351 (show (1 : Int32).toInt = ((1 : Nat) : Int) by decide) rfl (by omega) (by omega)), (mq_pc hx2356 (show (1 : Int32).toInt = ((1 : Nat) : Int) by decide) rfl (by omega) (by omega))]; intro h9; have h8 := congrArg Int32.toInt h9; omega)) (by omega)) (mL_next (v := v2361) hw2 (by omega) (by rw [(show Ra 55 v398.toInt.toNat = v2338 from e_v2338)]; exact (mq_pc hx2362 (show (2 : Int32).toInt = ((2 : Nat) : Int) by decide) rfl (by omega) (by omega))) (by omega)) (mD_next hw3 (by omega) (fun j hj => hw4 j (by omega))) (by omega) _ (lv_sub hl [0, 1, 2, 4, 5, 6] rfl)
                · have hc2358 : v2350.toInt = v2355.toInt := (fi_eq rfl rfl).mp c9
                  refine lv_iconst (v := 3) hx hb dX13_weighMade_96 (by decide) ?_
                  refine lv_goto (tgt := 101) hx hb dX13_weighMade_97 (by decide) ?_
                  refine lv_iadd hx hb dX13_weighMade_101 ?_
                  refine tk_add rfl (show (3 : Int32).toInt = 3 by decide) (by omega) (by omega) (fun v2366 h_v2366 => ?_)
                  refine lv_iadd hx hb dX13_weighMade_102 ?_
                  refine tk_add rfl rfl (by omega) (by omega) (fun v2367 h_v2367 => ?_)
                  refine lv_istore_n (lv' := [(3, .int v2367), (6, .int v2119), (5, .int v398), (4, .int v399), (0, .ref am), (1, .int p1), (2, .int p2)]) hx hb dX13_weighMade_103 rfl hl (by decide) rfl (fun ls hl => ?_)
                  refine lv_iload hx hb dX13_weighMade_104 (lv_at hl 3 rfl) ?_
                  refine lv_aload_n hx hb dX13_weighMade_106 rfl (lv_at hl 4 rfl) ?_
                  refine lv_aload_n hx hb dX13_weighMade_107 rfl (lv_at hl 4 rfl) ?_
                  refine mz_getR hx hb htl hown hK hM 55 (Nat.le_of_ble_eq_true rfl) (Nat.le_of_ble_eq_true rfl) (htl _ mw_236) (fun _ h9 => h9) dX13_weighMade_108 ?_
                  refine lv_iload hx hb dX13_weighMade_111 (lv_at hl 2 rfl) ?_
                  refine mz_iald hx hb hK hM 55 (Nat.le_of_ble_eq_true rfl) rfl (nn := 4) rfl rfl (by omega) (by omega) dX13_weighMade_113 (fun v9 e9 => ?_)
                  refine fx_ti (v := v2338) (e9.symm.trans e_v2338) ?_
                  refine lv_iconst (v := 2) hx hb dX13_weighMade_114 (by decide) ?_
                  have hk_2 : (2 : Int32).toInt = 2 := by decide
                  refine mz_Vj (As := [.int v2338, .int 2]) (rest := [.int v399]) ⟨hx, hb, hml, hown, hts⟩ hK hM hS (k_X13_ofPiece_x l D cy ld ad am hD _ _ _ _ v2338 2 (hIF.weak) hIG hIR (by omega) (by omega) (by omega) (by omega)) ⟨callB_of 2 hts (wl_in mw_1480) rfl rfl rfl (htl _ mw_5) (htl _ mw_1477) hd_yX13_ofPiece ⟨(Nat.le_of_ble_eq_true rfl), (Nat.le_of_ble_eq_true rfl)⟩, htl _ mw_1478, htl _ mw_1479⟩ rfl hl.1 rfl (Nat.le_of_ble_eq_true rfl) dX13_weighMade_115 ⟨(Nat.le_of_ble_eq_true rfl), (Nat.le_of_ble_eq_true rfl)⟩ (fun v2368 H locs hpo hM hS => ?_)
                  have hx2369 := hpo
                  have hq_v2368 := tk_rng v2368
                  have hpc_v2368 : 1 ≤ v2368.toInt ∧ v2368.toInt ≤ 9 := by have h9 := (hx_1 v2338.toInt.toNat (by omega)).2; rw [show 80 + 3 * v2338.toInt.toNat = (78 + 3 * v2338.toInt + (2 : Int32).toInt).toNat by (have h8 : (2 : Int32).toInt = 2 := by decide); omega, ← hx2369] at h9; exact h9
                  refine lv_iadd hx hb dX13_weighMade_118 ?_
                  refine tk_add rfl rfl (by omega) (by omega) (fun v2371 h_v2371 => ?_)
                  refine lv_istore (lv' := [(4, .int v2371), (3, .int v2367), (6, .int v2119), (5, .int v398), (0, .ref am), (1, .int p1), (2, .int p2)]) hx hb dX13_weighMade_119 hl (by decide) rfl (fun ls hl => ?_)
                  obtain ⟨v2372, h_v2372, e_v2372⟩ := tk_inc v398 1 (by decide) (by omega) (by omega)
                  refine lv_iinc (v := v2372) (lv' := [(5, .int v2372), (4, .int v2371), (3, .int v2367), (6, .int v2119), (0, .ref am), (1, .int p1), (2, .int p2)]) hx hb dX13_weighMade_121 hl (k := 3) rfl e_v2372 (by decide) rfl (fun ls hl => ?_)
                  refine lv_goto (tgt := 8) hx hb dX13_weighMade_124 (by decide) ?_
                  exact ih_l2076 v2372 v2371 v2367 _ _ (by omega) (by omega) (by omega) (by omega) (by omega) hM hS (mS_next (v := v2339) hw1 (by omega) (by rw [(show Ra 55 v398.toInt.toNat = v2338 from e_v2338)]; exact (mq_pc hx2340 (show (0 : Int32).toInt = ((0 : Nat) : Int) by decide) rfl (by omega) (by omega))) (mBon_iy (by omega) (by rw [(show Ra 55 v398.toInt.toNat = v2338 from e_v2338), show v398.toInt.toNat - 1 = v2353.toInt.toNat by omega, show Ra 55 v2353.toInt.toNat = v2354 from e_v2354, (mq_pc hx2351 (show (1 : Int32).toInt = ((1 : Nat) : Int) by decide) rfl (by omega) (by omega)), (mq_pc hx2356 (show (1 : Int32).toInt = ((1 : Nat) : Int) by decide) rfl (by omega) (by omega))]; exact m_eq (by omega))) (by omega)) (mL_next (v := v2368) hw2 (by omega) (by rw [(show Ra 55 v398.toInt.toNat = v2338 from e_v2338)]; exact (mq_pc hx2369 (show (2 : Int32).toInt = ((2 : Nat) : Int) by decide) rfl (by omega) (by omega))) (by omega)) (mD_next hw3 (by omega) (fun j hj => hw4 j (by omega))) (by omega) _ (lv_sub hl [0, 1, 2, 4, 5, 6] rfl)
            · have hc2337 : ¬ (v398.toInt ≤ v2119.toInt) := fun h9 => c9 ((fi_le rfl rfl).mpr h9)
              refine lv_aload_n hx hb dX13_weighMade_24 rfl (lv_at hl 4 rfl) ?_
              refine mz_getR hx hb htl hown hK hM 55 (Nat.le_of_ble_eq_true rfl) (Nat.le_of_ble_eq_true rfl) (htl _ mw_236) (fun _ h9 => h9) dX13_weighMade_25 ?_
              refine lv_iload hx hb dX13_weighMade_28 (lv_at hl 0 rfl) ?_
              refine mz_iald hx hb hK hM 55 (Nat.le_of_ble_eq_true rfl) rfl (nn := 4) rfl rfl (by omega) (by omega) dX13_weighMade_30 (fun v2373 e_v2373 => ?_)
              have hq_v2373 := tk_rng v2373
              refine lv_aload_n hx hb dX13_weighMade_31 rfl (lv_at hl 4 rfl) ?_
              refine mz_getR hx hb htl hown hK hM 55 (Nat.le_of_ble_eq_true rfl) (Nat.le_of_ble_eq_true rfl) (htl _ mw_236) (fun _ h9 => h9) dX13_weighMade_32 ?_
              refine lv_iload hx hb dX13_weighMade_35 (lv_at hl 1 rfl) ?_
              refine mz_iald hx hb hK hM 55 (Nat.le_of_ble_eq_true rfl) rfl (nn := 4) rfl rfl (by omega) (by omega) dX13_weighMade_37 (fun v2374 e_v2374 => ?_)
              have hq_v2374 := tk_rng v2374
              refine lv_icmp_ne (tgt := 43) hx hb dX13_weighMade_38 (by decide) (fun c9 => ?_) (fun c9 => ?_)
              · have hc2375 : ¬ (v2373.toInt = v2374.toInt) := fun h9 => c9 ((fi_eq rfl rfl).mpr h9)
                obtain ⟨v2376, h_v2376, e_v2376⟩ := tk_inc v2119 1 (by decide) (by omega) (by omega)
                refine lv_iinc (v := v2376) (lv' := [(6, .int v2376), (5, .int v398), (4, .int v399), (3, .int v400), (0, .ref am), (1, .int p1), (2, .int p2)]) hx hb dX13_weighMade_43 hl (k := 0) rfl e_v2376 (by decide) rfl (fun ls hl => ?_)
                refine lv_goto (tgt := 17) hx hb dX13_weighMade_46 (by decide) ?_
                exact ih_l2336 v2376 (by omega) (by omega) (fun j hj => if e9 : (j : Int) = v2119.toInt then (by rw [show j = v2119.toInt.toNat by omega, show Ra 55 v2119.toInt.toNat = v2373 from e_v2373, show Ra 55 v398.toInt.toNat = v2374 from e_v2374]; omega) else hw4 j (by omega)) (by omega) _ (lv_sub hl [0, 1, 2, 3, 4, 5, 6] rfl)
              · have hc2375 : v2373.toInt = v2374.toInt := (fi_eq rfl rfl).mp c9
                refine lv_iconst (v := 0) hx hb dX13_weighMade_41 (by decide) ?_
                have hk_0 : (0 : Int32).toInt = 0 := by decide
                have hk_0 : (0 : Int32).toInt = 0 := by decide
                exact mz_iret (v := 0) hx hb hr rfl hlocks ⟨hIF, hIG, hIR, (fun _ _ => rfl), (fun _ _ => rfl), (fun _ _ => rfl), (by omega), (by omega), ⟨(fun h9 => (show False by omega).elim), (fun _ => ⟨(fun h9 => by have h8 := h9.1 v2119.toInt.toNat v398.toInt.toNat (by omega) (by omega); rw [show Ra 55 v2119.toInt.toNat = v2373 from e_v2373, show Ra 55 v398.toInt.toNat = v2374 from e_v2374] at h8; omega), rfl, rfl, rfl⟩)⟩⟩ hM hS dX13_weighMade_42
        have hk_0 : (0 : Int32).toInt = 0 := by decide
        have hk_0 : (0 : Int32).toInt = 0 := by decide
        exact hl2336 4 0 (by omega) (by omega) (fun j hj => absurd hj (by omega)) (by omega) _ (lv_sub hl [0, 1, 2, 3, 4, 5, 6] rfl)
  have hk_0 : (0 : Int32).toInt = 0 := by decide
  have hk_0 : (0 : Int32).toInt = 0 := by decide
  have hk_0 : (0 : Int32).toInt = 0 := by decide
  exact hl2076 5 0 0 0 _ _ (by omega) (by omega) (by omega) (by omega) (by omega) hM hS (by rw [show (0 : Int32).toInt = 0 by decide]; rfl) (by rw [show (0 : Int32).toInt = 0 by decide]; rfl) (fun a b _ h9 => absurd h9 (by rw [show (0 : Int32).toInt = 0 by decide]; exact Nat.not_lt_zero b)) (by omega) _ (lv_sub hl [0, 1, 2, 3, 4, 5] rfl)
set_option maxHeartbeats 4000000 in
set_option maxRecDepth 100000 in
theorem k_X13_made_x (l : Launch) (D : va_G) (cy : Nat → ClassId) (ld ad : Nat → Nat) (am : Nat) (hD : mz_D ad am) (Fa : Nat → Int32) (Ga : Nat → Int64) (Ra : Nat → Nat → Int32) (Sa : Nat → Nat → Int64) (p1 : Int32) (p2 : Int32) (g2 : Int32) (hIF : mz_IF true Fa) (hIG : mz_IG Ga) (hIR : mz_IR [] true Ra) (hg_0 : Ra 3 2 = g2) (hx_0 : ∀ j : Nat, (j : Int) < g2.toInt → (1 ≤ (Ra 3 (78 + 3 * j)).toInt ∧ (Ra 3 (78 + 3 * j)).toInt ≤ 99) ∧ 1 ≤ (Ra 3 (80 + 3 * j)).toInt ∧ (Ra 3 (80 + 3 * j)).toInt ≤ 9) : Met l yX13_made (wl yX13_made cX13_made 4 (some .int)) ({ frames := 5, cells := 0, slots := 0, locals := 280 }) (mz_p D cy ld ad am Fa Ga Ra Sa [.ref am, .int p1, .int p2]) (mz_i D cy ad am (fun r F G R S => mz_IF true F ∧ mz_IG G ∧ mz_IR [] true R ∧ (∀ k : Nat, k ∉ ([0, 57, 58] : List Nat) → F k = Fa k) ∧ (∀ k : Nat, k ∉ ([55, 56] : List Nat) → R k = Ra k) ∧ (∀ k : Nat, k ∉ ([] : List Nat) → G k = Ga k) ∧ (p1.toInt ≤ 0 → r.toInt + 1 = 0) ∧ (37 ≤ p1.toInt → r.toInt + 1 = 0) ∧ (p2.toInt ≤ (-2) → r.toInt + 1 = 0) ∧ (4 ≤ p2.toInt → r.toInt + 1 = 0) ∧ (1 ≤ p1.toInt → p1.toInt ≤ 36 → -1 ≤ p2.toInt → p2.toInt ≤ 3 → ∃ y : mT, y.1 < 0 ∧ mR g2.toInt p1.toInt (mq g2.toInt (fun j => Ra 3 (78 + 3 * j))) (mq g2.toInt (fun j => Ra 3 (79 + 3 * j))) (mq g2.toInt (fun j => Ra 3 (80 + 3 * j))) (0, upd (Ra 55) 0 (-1), -1, 0, Ra 56) y ∧ r.toInt = mAns y p2.toInt))) 0 0 (mz_W ad am) := by
  refine mz_met (y := yX13_made) (cc := cX13_made) (maxL := 4) (ret := (some .int)) (av := [.ref am, .int p1, .int p2]) _ (by decide) (Nat.le_of_ble_eq_true rfl) ?_
  intro p e s m args below meth c hx hb hr hml hts htl hown hlocks hK H locs hM hS ls hl
  have hown : s.vm.findClass RX13 = some m.cls := hown
  have hl : lv_has ls 4 [(0, .ref am), (1, .int p1), (2, .int p2)] := hl
  have hr_p1 := tk_rng p1
  have hr_p2 := tk_rng p2
  have hq_g2 := tk_rng g2
  have hr_g2 : 0 ≤ g2.toInt ∧ g2.toInt ≤ 10 := by have h9 := mz_r3c 2 (hIR.at 3) hg_0 (by decide); unfold mE at h9; omega
  refine lv_aload_n hx hb dX13_made_0 rfl (lv_at hl 0 rfl) ?_
  refine lv_iconst (v := 0) hx hb dX13_made_1 (by decide) ?_
  have hk_0 : (0 : Int32).toInt = 0 := by decide
  refine mz_putI (ty := .int) (x := 0) hx hb htl hown hK hD hM hS 0 (Nat.le_of_ble_eq_true rfl) rfl (htl _ mw_286) (fun _ h9 => h9) rfl (tyX13_ok 0 (by decide)) rfl rfl dX13_made_2 (fun H locs F hM hS hf9 hj9 => ?_)
  have hIF := hIF.put hf9 hj9 (tk_rng _).1 (tk_rng _).2 (by decide)
  have hFF := mz_frp (K := [0, 57, 58]) (Fa := Fa) hj9 (fun _ _ => rfl) (by decide)
  have hf2 := hf9
  refine lv_iload_n hx hb dX13_made_5 rfl (lv_at hl 1 rfl) ?_
  obtain ⟨w3, e_w3, h_w3⟩ : ∃ z : Int64, p1.toInt64 = z ∧ z.toInt = p1.toInt := ⟨_, rfl, fl_w _⟩
  refine lv_i2l (v := w3) hx hb dX13_made_6 e_w3 ?_
  refine lv_lconst (v := 1) hx hb dX13_made_7 (by decide) ?_
  refine lv_ldc2 hx hb hown (htl _ mw_1470) dX13_made_8 ?_
  have hk_1 : (1 : Int64).toInt = 1 := by decide
  have hk_36 : (36 : Int64).toInt = 36 := by decide
  refine mz_Sj (As := [.long w3, .long 1, .long 36]) (rest := []) ⟨hx, hb, hml, hown, hts⟩ hK hM hS (k_X13_in l D cy ld ad am hD _ _ _ _ w3 1 36) ⟨callB_of 3 hts (wl_in mw_292) rfl rfl rfl (htl _ mw_5) (htl _ mw_290) hd_yX13_in ⟨(Nat.le_of_ble_eq_true rfl), (Nat.le_of_ble_eq_true rfl)⟩, htl _ mw_291⟩ rfl hl.1 rfl (Nat.le_of_ble_eq_true rfl) dX13_made_11 ⟨(Nat.le_of_ble_eq_true rfl), (Nat.le_of_ble_eq_true rfl)⟩ (fun v4 H locs hpo hM hS => ?_)
  obtain ⟨hpo5, hpo6, hpo10, hpo11, hpo12, hpo13⟩ := hpo
  have hq_v4 := tk_rng v4
  refine lv_if_eq (tgt := 31) hx hb dX13_made_14 (by decide) (fun c9 => ?_) (fun c9 => ?_)
  · have hc15 : v4.toInt = 0 := (fi_eq rfl (show (0 : Int32).toInt = 0 by decide)).mp c9
    refine lv_iconst (v := (-1)) hx hb dX13_made_31 (by decide) ?_
    have hk_m1 : ((-1) : Int32).toInt = (-1) := by decide
    have hk_m1 : ((-1) : Int32).toInt = (-1) := by decide
    exact mz_iret (v := (-1)) hx hb hr rfl hlocks ⟨hIF, hIG, hIR, hFF, (fun _ _ => rfl), (fun _ _ => rfl), (by omega), (by omega), (by omega), (by omega), (fun h6 h7 h8 h9 => (show False by omega).elim)⟩ hM hS dX13_made_32
  · have hc15 : ¬ (v4.toInt = 0) := fun h9 => c9 ((fi_eq rfl (show (0 : Int32).toInt = 0 by decide)).mpr h9)
    have hwk_16 : 1 ≤ w3.toInt ∧ w3.toInt ≤ 36 := by omega
    refine lv_iload_n hx hb dX13_made_17 rfl (lv_at hl 2 rfl) ?_
    obtain ⟨w17, e_w17, h_w17⟩ : ∃ z : Int64, p2.toInt64 = z ∧ z.toInt = p2.toInt := ⟨_, rfl, fl_w _⟩
    refine lv_i2l (v := w17) hx hb dX13_made_18 e_w17 ?_
    refine lv_ldc2 hx hb hown (htl _ mw_691) dX13_made_19 ?_
    refine lv_ldc2 hx hb hown (htl _ mw_1361) dX13_made_22 ?_
    have hk_m1 : ((-1) : Int64).toInt = (-1) := by decide
    have hk_3 : (3 : Int64).toInt = 3 := by decide
    refine mz_Sj (As := [.long w17, .long (-1), .long 3]) (rest := []) ⟨hx, hb, hml, hown, hts⟩ hK hM hS (k_X13_in l D cy ld ad am hD _ _ _ _ w17 (-1) 3) ⟨callB_of 3 hts (wl_in mw_292) rfl rfl rfl (htl _ mw_5) (htl _ mw_290) hd_yX13_in ⟨(Nat.le_of_ble_eq_true rfl), (Nat.le_of_ble_eq_true rfl)⟩, htl _ mw_291⟩ rfl hl.1 rfl (Nat.le_of_ble_eq_true rfl) dX13_made_25 ⟨(Nat.le_of_ble_eq_true rfl), (Nat.le_of_ble_eq_true rfl)⟩ (fun v18 H locs hpo hM hS => ?_)
    obtain ⟨hpo19, hpo20, hpo21, hpo22, hpo23, hpo24⟩ := hpo
    have hq_v18 := tk_rng v18
    refine lv_if_ne (tgt := 33) hx hb dX13_made_28 (by decide) (fun c9 => ?_) (fun c9 => ?_)
    · have hc26 : ¬ (v18.toInt = 0) := fun h9 => c9 ((fi_eq rfl (show (0 : Int32).toInt = 0 by decide)).mpr h9)
      have hwk_27 : (-1) ≤ w17.toInt ∧ w17.toInt ≤ 3 := by omega
      refine lv_aload_n hx hb dX13_made_33 rfl (lv_at hl 0 rfl) ?_
      refine lv_iconst (v := (-1)) hx hb dX13_made_34 (by decide) ?_
      have hk_m1 : ((-1) : Int32).toInt = (-1) := by decide
      refine mz_putI (ty := .int) (x := (-1)) hx hb htl hown hK hD hM hS 58 (Nat.le_of_ble_eq_true rfl) rfl (htl _ mw_1471) (fun _ h9 => h9) rfl (tyX13_ok 58 (by decide)) rfl rfl dX13_made_35 (fun H locs F hM hS hf9 hj9 => ?_)
      have hIF := hIF.put hf9 hj9 (tk_rng _).1 (tk_rng _).2 (by decide)
      have hFF := mz_frp (K := [0, 57, 58]) (Fa := Fa) hj9 hFF (by decide)
      have hf2 := (hj9 0 (by decide)).trans hf2
      have hf29 := hf9
      refine lv_aload_n hx hb dX13_made_38 rfl (lv_at hl 0 rfl) ?_
      refine lv_iconst (v := 0) hx hb dX13_made_39 (by decide) ?_
      have hk_0 : (0 : Int32).toInt = 0 := by decide
      have hk_0 : (0 : Int32).toInt = 0 := by decide
      refine mz_putI (ty := .int) (x := 0) hx hb htl hown hK hD hM hS 57 (Nat.le_of_ble_eq_true rfl) rfl (htl _ mw_1472) (fun _ h9 => h9) rfl (tyX13_ok 57 (by decide)) rfl rfl dX13_made_40 (fun H locs F hM hS hf9 hj9 => ?_)
      have hIF := hIF.put hf9 hj9 (show 0 ≤ (0 : Int32).toInt by omega) (show (0 : Int32).toInt ≤ 4 by omega) (by decide)
      have hFF := mz_frp (K := [0, 57, 58]) (Fa := Fa) hj9 hFF (by decide)
      have hf2 := (hj9 0 (by decide)).trans hf2
      have hf29 := (hj9 58 (by decide)).trans hf29
      have hf31 := hf9
      refine lv_iconst (v := 0) hx hb dX13_made_43 (by decide) ?_
      refine lv_istore_n (lv' := [(3, .int 0), (0, .ref am), (1, .int p1), (2, .int p2)]) hx hb dX13_made_44 rfl hl (by decide) rfl (fun ls hl => ?_)
      refine lv_aload_n hx hb dX13_made_45 rfl (lv_at hl 1 rfl) ?_
      refine mz_getR hx hb htl hown hK hM 55 (Nat.le_of_ble_eq_true rfl) (Nat.le_of_ble_eq_true rfl) (htl _ mw_236) (fun _ h9 => h9) dX13_made_46 ?_
      refine lv_iconst (v := 0) hx hb dX13_made_49 (by decide) ?_
      refine lv_iconst (v := (-1)) hx hb dX13_made_50 (by decide) ?_
      have hk_0 : (0 : Int32).toInt = 0 := by decide
      have hk_m1 : ((-1) : Int32).toInt = (-1) := by decide
      refine mz_iast (x := (-1)) hx hb hK hD hM hS 55 (Nat.le_of_ble_eq_true rfl) rfl (nn := 4) rfl (I := 0) (by decide) (by decide) (by decide) dX13_made_51 (fun H locs R hM hS hw9 hj9 => ?_)
      have hIR := hIR.put hw9 hj9 trivial
      have hRR := mz_frp (K := [55, 56]) (Fa := Ra) hj9 (fun _ _ => rfl) (by decide)
      have hre_55 : R 55 = upd (Ra 55) (0 : Int32).toNatClampNeg (-1) := hw9.trans (congrArg (fun f => upd f (0 : Int32).toNatClampNeg (-1)) (rfl : Ra 55 = Ra 55))
      have hg_0 : R 3 2 = _ := (congrFun (hj9 3 (by decide)) 2).trans hg_0
      have hf33 : R 55 0 = (-1) := (congrFun hw9 0).trans pk_us
      have hl263 : ∀ (N_l263 : Nat) (v74 : Int32) (H : Heap) (locs : List Loc) (F : Nat → Int32) (G : Nat → Int64) (R : Nat → Nat → Int32) (S : Nat → Nat → Int64), ((-1) ≤ v74.toInt) → (v74.toInt ≤ 3) → (mz_S D cy ad am F G R S H) → (va_S (mz_W ad am) s.heap H locs) → (mz_IF true F) → (mz_IG G) → (mz_IR [] true R) → (∀ k : Nat, k ∉ ([0, 57, 58] : List Nat) → F k = Fa k) → (∀ k : Nat, k ∉ ([] : List Nat) → G k = Ga k) → (∀ k : Nat, k ∉ ([55, 56] : List Nat) → R k = Ra k) → (R 3 2 = g2) → (F 0 = 0) → (∀ j : Nat, (j : Int) ≤ v74.toInt → -1 ≤ (R 55 j).toInt ∧ (R 55 j).toInt ≤ 9) → (∃ E : Nat → Int32, mR g2.toInt p1.toInt (mq g2.toInt (fun j => Ra 3 (78 + 3 * j))) (mq g2.toInt (fun j => Ra 3 (79 + 3 * j))) (mq g2.toInt (fun j => Ra 3 (80 + 3 * j))) (0, upd (Ra 55) 0 (-1), -1, 0, Ra 56) (v74.toInt, R 55, (F 58).toInt, (F 57).toInt, E) ∧ mAB (F 57).toInt (R 56) E) → (∀ j : Nat, (j : Int) < v74.toInt → 0 ≤ (R 55 j).toInt ∧ (R 55 j).toInt < g2.toInt) → (oM (R 55) 10 12 3 (v74.toInt + 1).toNat < (N_l263 : Int)) → ∀ ls : Array Slot, lv_has ls 4 [(3, .int v74), (0, .ref am), (1, .int p1), (2, .int p2)] → W p l e ({ frames := 5, cells := 0, slots := 0, locals := 280 }) s m args below meth c H locs 0 0 (MQ below (mz_i D cy ad am (fun r F G R S => mz_IF true F ∧ mz_IG G ∧ mz_IR [] true R ∧ (∀ k : Nat, k ∉ ([0, 57, 58] : List Nat) → F k = Fa k) ∧ (∀ k : Nat, k ∉ ([55, 56] : List Nat) → R k = Ra k) ∧ (∀ k : Nat, k ∉ ([] : List Nat) → G k = Ga k) ∧ (p1.toInt ≤ 0 → r.toInt + 1 = 0) ∧ (37 ≤ p1.toInt → r.toInt + 1 = 0) ∧ (p2.toInt ≤ (-2) → r.toInt + 1 = 0) ∧ (4 ≤ p2.toInt → r.toInt + 1 = 0) ∧ (1 ≤ p1.toInt → p1.toInt ≤ 36 → -1 ≤ p2.toInt → p2.toInt ≤ 3 → ∃ y : mT, y.1 < 0 ∧ mR g2.toInt p1.toInt (mq g2.toInt (fun j => Ra 3 (78 + 3 * j))) (mq g2.toInt (fun j => Ra 3 (79 + 3 * j))) (mq g2.toInt (fun j => Ra 3 (80 + 3 * j))) (0, upd (Ra 55) 0 (-1), -1, 0, Ra 56) y ∧ r.toInt = mAns y p2.toInt))) args s 0 0 (mz_W ad am)) (F0 m 52 ls []) := by
        intro N_l263
        induction N_l263 with
        | zero => intro v74 H locs F G R S hq0_l263 hq1_l263 hM hS hIF hIG hIR hFF hGG hRR hg_0 hf2 hod hmm hdn hm_l263 ls hl; exfalso; have h9 := oM.nn (f := R 55) (b := 10) (c := 12) (n := 3) (v74.toInt + 1).toNat (fun j hj => by have := (hod j (by omega)).2; omega); omega
        | succ N_l263 ih_l263 =>
          intro v74 H locs F G R S hq0_l263 hq1_l263 hM hS hIF hIG hIR hFF hGG hRR hg_0 hf2 hod hmm hdn hm_l263 ls hl
          refine lv_iload_n hx hb dX13_made_52 rfl (lv_at hl 0 rfl) ?_
          refine lv_if_lt (tgt := 114) hx hb dX13_made_53 (by decide) (fun c9 => ?_) (fun c9 => ?_)
          · have hc264 : v74.toInt < 0 := (fi_lt rfl (show (0 : Int32).toInt = 0 by decide)).mp c9
            refine lv_iload_n hx hb dX13_made_114 rfl (lv_at hl 3 rfl) ?_
            refine lv_iconst (v := (-1)) hx hb dX13_made_115 (by decide) ?_
            refine lv_icmp_ne (tgt := 126) hx hb dX13_made_116 (by decide) (fun c9 => ?_) (fun c9 => ?_)
            · have hc265 : ¬ (p2.toInt = (-1)) := fun h9 => c9 ((fi_eq rfl (show ((-1) : Int32).toInt = (-1) by decide)).mpr h9)
              refine lv_iload_n hx hb dX13_made_126 rfl (lv_at hl 3 rfl) ?_
              refine lv_aload_n hx hb dX13_made_127 rfl (lv_at hl 1 rfl) ?_
              refine mz_getI hx hb htl hown hK hM 57 (Nat.le_of_ble_eq_true rfl) rfl (htl _ mw_1472) (fun _ h9 => h9) dX13_made_128 (fun v267 hf266 => ?_)
              have hq_v267 := tk_rng v267
              have hr_v267 : 0 ≤ v267.toInt ∧ v267.toInt ≤ 4 := hIF.at hf266
              refine lv_icmp_ge (tgt := 143) hx hb dX13_made_131 (by decide) (fun c9 => ?_) (fun c9 => ?_)
              · have hc268 : v267.toInt ≤ p2.toInt := (fi_le rfl rfl).mp c9
                refine lv_iconst (v := (-1)) hx hb dX13_made_143 (by decide) ?_
                have hk_m1 : ((-1) : Int32).toInt = (-1) := by decide
                have hk_m1 : ((-1) : Int32).toInt = (-1) := by decide
                exact mz_iret (v := (-1)) hx hb hr rfl hlocks ⟨hIF, hIG, hIR, hFF, hRR, hGG, (by omega), (by omega), (by omega), (by omega), (fun _ _ _ _ => by obtain ⟨E9, hm9, hE9⟩ := hmm; exact ⟨_, show v74.toInt < 0 by omega, hm9, (show ((-1) : Int32).toInt = -1 by decide).trans (mAns_n (Or.inr ⟨by omega, by rw [hf266]; omega⟩)).symm⟩)⟩ hM hS dX13_made_144
              · have hc268 : ¬ (v267.toInt ≤ p2.toInt) := fun h9 => c9 ((fi_le rfl rfl).mpr h9)
                refine lv_aload_n hx hb dX13_made_134 rfl (lv_at hl 1 rfl) ?_
                refine mz_getR hx hb htl hown hK hM 56 (Nat.le_of_ble_eq_true rfl) (Nat.le_of_ble_eq_true rfl) (htl _ mw_237) (fun _ h9 => h9) dX13_made_135 ?_
                refine lv_iload_n hx hb dX13_made_138 rfl (lv_at hl 3 rfl) ?_
                refine mz_iald hx hb hK hM 56 (Nat.le_of_ble_eq_true rfl) rfl (nn := 4) rfl rfl (by omega) (by omega) dX13_made_139 (fun v269 e_v269 => ?_)
                have hq_v269 := tk_rng v269
                refine lv_goto (tgt := 144) hx hb dX13_made_140 (by decide) ?_
                exact mz_iret (v := v269) hx hb hr rfl hlocks ⟨hIF, hIG, hIR, hFF, hRR, hGG, (by omega), (by omega), (by omega), (by omega), (fun _ _ _ _ => by obtain ⟨E9, hm9, hE9⟩ := hmm; exact ⟨_, show v74.toInt < 0 by omega, hm9, mAns_at (by omega) (by rw [hf266]; omega) hE9 (e_v269).symm rfl⟩)⟩ hM hS dX13_made_144
            · have hc265 : p2.toInt = (-1) := (fi_eq rfl (show ((-1) : Int32).toInt = (-1) by decide)).mp c9
              refine lv_aload_n hx hb dX13_made_119 rfl (lv_at hl 1 rfl) ?_
              refine mz_getI hx hb htl hown hK hM 58 (Nat.le_of_ble_eq_true rfl) rfl (htl _ mw_1471) (fun _ h9 => h9) dX13_made_120 (fun v271 hf270 => ?_)
              have hq_v271 := tk_rng v271
              refine lv_goto (tgt := 144) hx hb dX13_made_123 (by decide) ?_
              exact mz_iret (v := v271) hx hb hr rfl hlocks ⟨hIF, hIG, hIR, hFF, hRR, hGG, (by omega), (by omega), (by omega), (by omega), (fun _ _ _ _ => by obtain ⟨E9, hm9, hE9⟩ := hmm; exact ⟨_, show v74.toInt < 0 by omega, hm9, ((mAns_s (by omega)).trans (congrArg Int32.toInt hf270)).symm⟩)⟩ hM hS dX13_made_144
          · have hc264 : ¬ (v74.toInt < 0) := fun h9 => c9 ((fi_lt rfl (show (0 : Int32).toInt = 0 by decide)).mpr h9)
            refine lv_aload_n hx hb dX13_made_56 rfl (lv_at hl 1 rfl) ?_
            obtain ⟨f9, ef9⟩ : ∃ z : Nat → Int32, R 55 = z := ⟨_, rfl⟩
            have hod9 := hod
            rw [ef9] at hod9
            have hm9 := hm_l263
            rw [ef9] at hm9
            obtain ⟨E9, hmm9, hE9⟩ := hmm
            rw [ef9] at hmm9
            have hdn9 := hdn
            rw [ef9] at hdn9
            have hB9 : R 56 = R 56 := rfl
            obtain ⟨b9, eb9⟩ : ∃ z : Nat → Int32, R 56 = z := ⟨_, rfl⟩
            rw [eb9] at hE9
            have hB9 := eb9
            refine mz_getR hx hb htl hown hK hM 55 (Nat.le_of_ble_eq_true rfl) (Nat.le_of_ble_eq_true rfl) (htl _ mw_236) (fun _ h9 => h9) dX13_made_57 ?_
            refine lv_iload_n hx hb dX13_made_60 rfl (lv_at hl 0 rfl) ?_
            refine lv_dup2_11 hx hb dX13_made_61 rfl rfl ?_
            refine mz_iald hx hb hK hM 55 (Nat.le_of_ble_eq_true rfl) rfl (nn := 4) rfl rfl (by omega) (by omega) dX13_made_62 (fun v272 e_v272 => ?_)
            have hq_v272 := tk_rng v272
            have hfk : f9 v74.toInt.toNat = v272 := by rw [← ef9]; exact e_v272
            have hdg : -1 ≤ v272.toInt ∧ v272.toInt ≤ 9 := by have h9 := hod9 v74.toInt.toNat (by omega); rw [hfk] at h9; exact h9
            refine lv_iconst (v := 1) hx hb dX13_made_63 (by decide) ?_
            refine lv_iadd hx hb dX13_made_64 ?_
            refine tk_add rfl (show (1 : Int32).toInt = 1 by decide) (by omega) (by omega) (fun v273 h_v273 => ?_)
            refine mz_iast (x := v273) hx hb hK hD hM hS 55 (Nat.le_of_ble_eq_true rfl) rfl (nn := 4) rfl rfl (by omega) (by omega) dX13_made_65 (fun H locs R hM hS hw9 hj9 => ?_)
            have hIR := hIR.put hw9 hj9 trivial
            have hU1 : R 55 = upd f9 v74.toInt.toNat v273 := by rw [hw9, ef9]; rfl
            have hRR := mz_frp (K := [55, 56]) (Fa := Ra) hj9 hRR (by decide)
            have hB9 := (hj9 56 (by decide)).trans hB9
            have hg_0 : R 3 2 = _ := (congrFun (hj9 3 (by decide)) 2).trans hg_0
            have em274 : R 55 (v74 : Int32).toNatClampNeg = v273 := (congrFun hw9 _).trans pk_us
            refine lv_aload_n hx hb dX13_made_66 rfl (lv_at hl 1 rfl) ?_
            refine mz_getR hx hb htl hown hK hM 55 (Nat.le_of_ble_eq_true rfl) (Nat.le_of_ble_eq_true rfl) (htl _ mw_236) (fun _ h9 => h9) dX13_made_67 ?_
            refine lv_iload_n hx hb dX13_made_70 rfl (lv_at hl 0 rfl) ?_
            refine mz_iald hx hb hK hM 55 (Nat.le_of_ble_eq_true rfl) rfl (nn := 4) rfl rfl (by omega) (by omega) dX13_made_71 (fun v9 e9 => ?_)
            refine fx_ti (v := v273) (e9.symm.trans em274) ?_
            refine lv_aload_n hx hb dX13_made_72 rfl (lv_at hl 1 rfl) ?_
            refine mz_getR hx hb htl hown hK hM 3 (Nat.le_of_ble_eq_true rfl) (Nat.le_of_ble_eq_true rfl) (htl _ mw_188) (fun _ h9 => h9) dX13_made_73 ?_
            refine lv_iconst (v := 2) hx hb dX13_made_76 (by decide) ?_
            refine mz_iald hx hb hK hM 3 (Nat.le_of_ble_eq_true rfl) rfl (nn := 5560) rfl (I := 2) (by decide) (by decide) (by decide) dX13_made_77 (fun v9 e9 => ?_)
            refine fx_ti (v := g2) (e9.symm.trans (show R 3 (2 : Int32).toNatClampNeg = _ from hg_0)) ?_
            refine lv_icmp_lt (tgt := 87) hx hb dX13_made_78 (by decide) (fun c9 => ?_) (fun c9 => ?_)
            · have hc276 : v273.toInt < g2.toInt := (fi_lt rfl rfl).mp c9
              refine lv_aload_n hx hb dX13_made_87 rfl (lv_at hl 1 rfl) ?_
              refine lv_iload_n hx hb dX13_made_88 rfl (lv_at hl 0 rfl) ?_
              refine lv_iload_n hx hb dX13_made_89 rfl (lv_at hl 2 rfl) ?_
              have hU0 := hU1
              have hR30 := hRR 3 (by decide)
              obtain ⟨v278, hf277⟩ : ∃ z : Int32, F 58 = z := ⟨_, rfl⟩
              have hq_v278 := tk_rng v278
              obtain ⟨v280, hf279⟩ : ∃ z : Int32, F 57 = z := ⟨_, rfl⟩
              have hq_v280 := tk_rng v280
              have hr_v280 : 0 ≤ v280.toInt ∧ v280.toInt ≤ 4 := hIF.at hf279
              rw [hf277, hf279] at hmm9
              rw [hf279] at hE9
              refine mz_Vi (As := [.int v74, .int p1]) (rest := []) ⟨hx, hb, hml, hown, hts⟩ hK hM hS (k_X13_weighMade_x l D cy ld ad am hD _ _ _ _ v74 p1 g2 v278 v280 hIF hIG hIR hg_0 hf277 hf279 (by omega) (by omega) (fun j hj => by rw [hU1]; exact if e9 : j = v74.toInt.toNat then (by rw [e9, pk_us]; exact ⟨by omega, by omega⟩) else (by rw [pk_un e9]; exact hdn9 j (by omega))) (fun j hj => by rw [hRR 3 (by decide)]; exact hx_0 j hj)) ⟨callB_of 2 hts (wl_in mw_1476) rfl rfl rfl (htl _ mw_5) (htl _ mw_1473) hd_yX13_weighMade ⟨(Nat.le_of_ble_eq_true rfl), (Nat.le_of_ble_eq_true rfl)⟩, htl _ mw_1474, htl _ mw_1475⟩ rfl hl.1 rfl (Nat.le_of_ble_eq_true rfl) dX13_made_90 ⟨(Nat.le_of_ble_eq_true rfl), (Nat.le_of_ble_eq_true rfl)⟩ (fun v281 H locs F G R S hpo hM hS => ?_)
              obtain ⟨hIF, hIG, hIR, hfr9, hrr9, hgr9, hpo282, hpo283, hx284⟩ := hpo
              have hq_v281 := tk_rng v281
              have hFF := mz_fr (K := [0, 57, 58]) (Fa := Fa) hfr9 hFF (by decide)
              have hRR := mz_fr (K := [55, 56]) (Fa := Ra) hrr9 hRR (by decide)
              have hGG := mz_fr (K := []) (Fa := Ga) hgr9 hGG (by decide)
              have em274 : R 55 (v74 : Int32).toNatClampNeg = _ := (congrFun (hrr9 55 (by decide)) _).trans em274
              have hg_0 : R 3 2 = _ := (congrFun (hrr9 3 (by decide)) 2).trans hg_0
              have hf2 := (hfr9 0 (by decide)).trans hf2
              have hU1 := (hrr9 55 (by decide)).trans hU1
              rw [hU0, hR30] at hx284
              have hB8 : R 56 = R 56 := rfl
              refine lv_if_eq (tgt := 52) hx hb dX13_made_93 (by decide) (fun c9 => ?_) (fun c9 => ?_)
              · have hc286 : v281.toInt = 0 := (fi_eq rfl (show (0 : Int32).toInt = 0 by decide)).mp c9
                exact ih_l263 v74 _ _ _ _ _ _ (by omega) (by omega) hM hS hIF hIG hIR hFF hGG hRR hg_0 hf2 (od_r1 hod9 hU1 (by omega) (by omega)) (by obtain ⟨h1, h2, h3, h4⟩ := hx284.2 (by omega); rw [h2, h3, h4, hB9, hf277, hf279]; exact ⟨E9, mo_no hmm9 (show v74.toInt = ((v74.toInt.toNat : Nat) : Int) by omega) hU1 (by rw [hfk]; omega) (by omega) (by omega) (by omega) h1, hE9⟩) (fun j hj => by rw [hU1, pk_un (by omega)]; exact hdn9 j (by omega)) (od_st hm9 (by omega) hU1 (by rw [hfk]; omega) (by decide)) _ (lv_sub hl [0, 1, 2, 3] rfl)
              · have hc286 : ¬ (v281.toInt = 0) := fun h9 => c9 ((fi_eq rfl (show (0 : Int32).toInt = 0 by decide)).mpr h9)
                refine lv_iload_n hx hb dX13_made_96 rfl (lv_at hl 0 rfl) ?_
                refine lv_iconst (v := 3) hx hb dX13_made_97 (by decide) ?_
                refine lv_icmp_ge (tgt := 52) hx hb dX13_made_98 (by decide) (fun c9 => ?_) (fun c9 => ?_)
                · have hc287 : 3 ≤ v74.toInt := (fi_le (show (3 : Int32).toInt = 3 by decide) rfl).mp c9
                  exact ih_l263 v74 _ _ _ _ _ _ (by omega) (by omega) hM hS hIF hIG hIR hFF hGG hRR hg_0 hf2 (od_r1 hod9 hU1 (by omega) (by omega)) (by obtain ⟨h1, h2⟩ := hx284.1 (by omega); obtain ⟨E8, h3, h4⟩ := h2 E9 (by rw [hB9]; exact hE9); exact ⟨E8, mo_st hmm9 (show v74.toInt = ((v74.toInt.toNat : Nat) : Int) by omega) hU1 (by rw [hfk]; omega) (by omega) (by omega) (by omega) h1 (by omega) h3, h4⟩) (fun j hj => by rw [hU1, pk_un (by omega)]; exact hdn9 j (by omega)) (od_st hm9 (by omega) hU1 (by rw [hfk]; omega) (by decide)) _ (lv_sub hl [0, 1, 2, 3] rfl)
                · have hc287 : ¬ (3 ≤ v74.toInt) := fun h9 => c9 ((fi_le (show (3 : Int32).toInt = 3 by decide) rfl).mpr h9)
                  obtain ⟨v288, h_v288, e_v288⟩ := tk_inc v74 1 (by decide) (by omega) (by omega)
                  refine lv_iinc (v := v288) (lv' := [(3, .int v288), (0, .ref am), (1, .int p1), (2, .int p2)]) hx hb dX13_made_101 hl (k := 0) rfl e_v288 (by decide) rfl (fun ls hl => ?_)
                  refine lv_aload_n hx hb dX13_made_104 rfl (lv_at hl 1 rfl) ?_
                  refine mz_getR hx hb htl hown hK hM 55 (Nat.le_of_ble_eq_true rfl) (Nat.le_of_ble_eq_true rfl) (htl _ mw_236) (fun _ h9 => h9) dX13_made_105 ?_
                  refine lv_iload_n hx hb dX13_made_108 rfl (lv_at hl 0 rfl) ?_
                  refine lv_iconst (v := (-1)) hx hb dX13_made_109 (by decide) ?_
                  have hk_m1 : ((-1) : Int32).toInt = (-1) := by decide
                  refine mz_iast (x := (-1)) hx hb hK hD hM hS 55 (Nat.le_of_ble_eq_true rfl) rfl (nn := 4) rfl rfl (by omega) (by omega) dX13_made_110 (fun H locs R hM hS hw9 hj9 => ?_)
                  have hIR := hIR.put hw9 hj9 trivial
                  have hU2 : R 55 = upd (upd f9 v74.toInt.toNat v273) (v74.toInt.toNat + 1) (-1) := by rw [hw9, hU1, show (v288 : Int32).toNatClampNeg = v74.toInt.toNat + 1 by show v288.toInt.toNat = _; omega]
                  have hk_m1 : ((-1) : Int32).toInt = (-1) := by decide
                  have hRR := mz_frp (K := [55, 56]) (Fa := Ra) hj9 hRR (by decide)
                  have hB8 := (hj9 56 (by decide)).trans hB8
                  have hg_0 : R 3 2 = _ := (congrFun (hj9 3 (by decide)) 2).trans hg_0
                  have em289 : R 55 (v288 : Int32).toNatClampNeg = (-1) := (congrFun hw9 _).trans pk_us
                  refine lv_goto (tgt := 52) hx hb dX13_made_111 (by decide) ?_
                  exact ih_l263 v288 _ _ _ _ _ _ (by omega) (by omega) hM hS hIF hIG hIR hFF hGG hRR hg_0 hf2 (od_r2 hod9 hU2 (by omega) (by omega) (by omega) (by omega) (by omega) (by omega)) (by obtain ⟨h1, h2⟩ := hx284.1 (by omega); obtain ⟨E8, h3, h4⟩ := h2 E9 (by rw [hB9]; exact hE9); exact ⟨E8, mo_dn hmm9 (show v74.toInt = ((v74.toInt.toNat : Nat) : Int) by omega) hU2 (by omega) (by rw [hfk]; omega) (by omega) (by omega) (by omega) h1 (by omega) h3 (by omega), by rw [hB8]; exact h4⟩) (fun j hj => by rw [hU2, pk_un (by omega)]; exact if e9 : j = v74.toInt.toNat then (by rw [e9, pk_us]; exact ⟨by omega, by omega⟩) else (by rw [pk_un e9]; exact hdn9 j (by omega))) (od_up hm9 (by omega) (by omega) hU2 (by rw [hfk]; omega) (by omega) (by decide) (by decide) (by omega)) _ (lv_sub hl [0, 1, 2, 3] rfl)
            · have hc276 : ¬ (v273.toInt < g2.toInt) := fun h9 => c9 ((fi_lt rfl rfl).mpr h9)
              obtain ⟨v291, h_v291, e_v291⟩ := tk_inc v74 (-1) (by decide) (by omega) (by omega)
              refine lv_iinc (v := v291) (lv' := [(3, .int v291), (0, .ref am), (1, .int p1), (2, .int p2)]) hx hb dX13_made_81 hl (k := 0) rfl e_v291 (by decide) rfl (fun ls hl => ?_)
              refine lv_goto (tgt := 52) hx hb dX13_made_84 (by decide) ?_
              exact ih_l263 v291 _ _ _ _ _ _ (by omega) (by omega) hM hS hIF hIG hIR hFF hGG hRR hg_0 hf2 (od_r0 hod9 hU1 (by omega) (by omega)) ⟨E9, mo_end hmm9 (show v74.toInt = ((v74.toInt.toNat : Nat) : Int) by omega) hU1 (by rw [hfk]; omega) (by omega) (by omega) (by omega) (by omega), by rw [hB9]; exact hE9⟩ (fun j hj => by rw [hU1, pk_un (by omega)]; exact hdn9 j (by omega)) (by rw [show (v291.toInt + 1).toNat = v74.toInt.toNat by omega]; exact od_dn hm9 (by omega) hU1 (by rw [hfk]; omega) (by decide) (by omega)) _ (lv_sub hl [0, 1, 2, 3] rfl)
      have hk_0 : (0 : Int32).toInt = 0 := by decide
      have hk_0 : (0 : Int32).toInt = 0 := by decide
      have hk_0 : (0 : Int32).toInt = 0 := by decide
      exact hl263 19009 0 _ _ _ _ _ _ (by omega) (by omega) hM hS hIF hIG hIR hFF (fun _ _ => rfl) hRR hg_0 hf2 (fun j hj => by rw [show j = 0 by omega, hf33]; decide) ⟨Ra 56, by rw [hf29, hf31, hre_55, show (0 : Int32).toNatClampNeg = 0 by decide, show (0 : Int32).toInt = 0 by decide, show (-1 : Int32).toInt = -1 by decide]; exact mR.refl _, fun j hj => absurd hj (by rw [hf31, show (0 : Int32).toInt = 0 by decide]; omega)⟩ (fun j hj => absurd hj (by omega)) (by rw [show ((0 : Int32).toInt + 1).toNat = 0 + 1 by decide, oM.s, hf33]; show (0 : Int) + (10 - (-1 : Int32).toInt) * ((12 ^ (3 - 0) : Nat) : Int) < ((19009 : Nat) : Int); decide) _ (lv_sub hl [0, 1, 2, 3] rfl)
    · have hc26 : v18.toInt = 0 := (fi_eq rfl (show (0 : Int32).toInt = 0 by decide)).mp c9
      refine lv_iconst (v := (-1)) hx hb dX13_made_31 (by decide) ?_
      have hk_m1 : ((-1) : Int32).toInt = (-1) := by decide
      have hk_m1 : ((-1) : Int32).toInt = (-1) := by decide
      exact mz_iret (v := (-1)) hx hb hr rfl hlocks ⟨hIF, hIG, hIR, hFF, (fun _ _ => rfl), (fun _ _ => rfl), (by omega), (by omega), (by omega), (by omega), (fun h6 h7 h8 h9 => (show False by omega).elim)⟩ hM hS dX13_made_32
