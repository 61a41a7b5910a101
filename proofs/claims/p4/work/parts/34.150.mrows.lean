section
set_option maxHeartbeats 4000000 in
set_option maxRecDepth 100000 in
theorem k_X13_ofSinger_2_x (l : Launch) (D : va_G) (cy : Nat → ClassId) (ld ad : Nat → Nat) (am : Nat) (hD : mz_D ad am) (Fa : Nat → Int32) (Ga : Nat → Int64) (Ra : Nat → Nat → Int32) (Sa : Nat → Nat → Int64) (p1 : Int32) (hIF : mz_IF false Fa) (hIG : mz_IG Ga) (hIR : mz_IR [] true Ra) (hp_0 : 0 ≤ p1.toInt) (hp_1 : p1.toInt ≤ 7) : Met l yX13_ofSinger (wl yX13_ofSinger cX13_ofSinger 3 (some .int)) ({ frames := 3, cells := 0, slots := 0, locals := 140 }) (mz_p D cy ld ad am Fa Ga Ra Sa [.ref am, .int p1, .int 2]) (mz_j D cy ad am Fa Ga Ra Sa (fun r => 0 ≤ r.toInt ∧ r.toInt ≤ 1 ∧ r = Ra 3 (20 + 5 * p1.toInt.toNat))) 0 0 (mz_W ad am) := by
  refine mz_met (y := yX13_ofSinger) (cc := cX13_ofSinger) (maxL := 3) (ret := (some .int)) (av := [.ref am, .int p1, .int 2]) _ (by decide) (Nat.le_of_ble_eq_true rfl) ?_
  intro p e s m args below meth c hx hb hr hml hts htl hown hlocks hK H locs hM hS ls hl
  have hown : s.vm.findClass RX13 = some m.cls := hown
  have hl : lv_has ls 3 [(0, .ref am), (1, .int p1), (2, .int 2)] := hl
  have hr_p1 := tk_rng p1
  refine lv_aload_n hx hb dX13_ofSinger_0 rfl (lv_at hl 0 rfl) ?_
  refine mz_getR hx hb htl hown hK hM 3 (Nat.le_of_ble_eq_true rfl) (Nat.le_of_ble_eq_true rfl) (htl _ mw_188) (fun _ h9 => h9) dX13_ofSinger_1 ?_
  refine lv_bipush (v := 18) hx hb dX13_ofSinger_4 (by decide) ?_
  refine lv_iconst (v := 5) hx hb dX13_ofSinger_6 (by decide) ?_
  refine lv_iload_n hx hb dX13_ofSinger_7 rfl (lv_at hl 1 rfl) ?_
  refine lv_imul hx hb dX13_ofSinger_8 ?_
  refine tk_mul (show (5 : Int32).toInt = 5 by decide) rfl (by omega) (by omega) (fun v1 h_v1 => ?_)
  refine lv_iadd hx hb dX13_ofSinger_9 ?_
  refine tk_add (show (18 : Int32).toInt = 18 by decide) rfl (by omega) (by omega) (fun v2 h_v2 => ?_)
  refine lv_iload_n hx hb dX13_ofSinger_10 rfl (lv_at hl 2 rfl) ?_
  refine lv_iadd hx hb dX13_ofSinger_11 ?_
  refine tk_add rfl (show (2 : Int32).toInt = 2 by decide) (by omega) (by omega) (fun v3 h_v3 => ?_)
  refine mz_iald hx hb hK hM 3 (Nat.le_of_ble_eq_true rfl) rfl (nn := 5560) rfl rfl (by omega) (by omega) dX13_ofSinger_12 (fun v4 e_v4 => ?_)
  have hq_v4 := tk_rng v4
  have he_v4 : 0 ≤ v4.toInt ∧ v4.toInt ≤ 1 := by have h9 := mz_r3g (hIR.at 3) e_v4 rfl (by omega) (by omega); unfold mE at h9; omega
  exact mz_jret (v := v4) hx hb hr rfl hlocks ⟨(by omega), (by omega), (by rw [show 20 + 5 * p1.toInt.toNat = (v3 : Int32).toNatClampNeg by show _ = v3.toInt.toNat; omega]; exact e_v4.symm)⟩ hM hS dX13_ofSinger_13
end
section
/-- how many of the first s SINGERS are of CLAN c -/
def cn (f : Nat → Int32) (c : Int) : Nat → Int
  | 0 => 0
  | s + 1 => cn f c s + (if (f (20 + 5 * s)).toInt = c then 1 else 0)
theorem cn.s (f : Nat → Int32) (c : Int) (s : Nat) : cn f c (s + 1) = cn f c s + (if (f (20 + 5 * s)).toInt = c then 1 else 0) := rfl
theorem cn.mono (f : Nat → Int32) (c : Int) (s : Nat) : ∀ d : Nat, cn f c s ≤ cn f c (s + d) := by
  intro d
  induction d with
  | zero => exact Int.le_refl _
  | succ d ih =>
    have h := cn.s f c (s + d)
    rw [← Nat.add_assoc, h]
    split <;> omega
theorem cn.up {f : Nat → Int32} {c n n1 : Int} {s : Nat} {r : Int32} (h : n = cn f c s) (hr : r = f (20 + 5 * s)) (h1 : r.toInt = c → n1 = n + 1) (h0 : ¬ r.toInt = c → n1 = n) : n1 = cn f c (s + 1) := by
  rw [cn.s, ← hr, ← h]
  split
  · exact h1 (by assumption)
  · rw [h0 (by assumption)]
    omega
theorem cn.dn {f : Nat → Int32} {c left left1 N : Int} {s : Nat} {r : Int32} (h : left + cn f c s < N) (hr : r = f (20 + 5 * s)) (h1 : r.toInt = c → left1 = left - 1) (h0 : ¬ r.toInt = c → left1 = left) : left1 + cn f c (s + 1) < N := by
  rw [cn.s, ← hr]
  split
  · rw [h1 (by assumption)]
    omega
  · rw [h0 (by assumption)]
    omega
theorem cn.lt {f : Nat → Int32} {c left : Int} {s N : Nat} (h : left + cn f c s < cn f c N) (h0 : 0 ≤ left) : s < N := by
  by_cases e : s < N
  · exact e
  · have h9 := cn.mono f c N (s - N)
    rw [show N + (s - N) = s by omega] at h9
    omega
theorem cn.rel {f g : Nat → Int32} {c : Int} (h : rK2 f g) : ∀ s : Nat, s ≤ 8 → cn g c s = cn f c s := by
  intro s
  induction s with
  | zero => intro _; rfl
  | succ s ih =>
    intro hs
    rw [cn.s, cn.s, ih (by omega), h (20 + 5 * s) (by omega)]
set_option maxHeartbeats 4000000 in
set_option maxRecDepth 100000 in
theorem k_X13_manyOf_x (l : Launch) (D : va_G) (cy : Nat → ClassId) (ld ad : Nat → Nat) (am : Nat) (hD : mz_D ad am) (Fa : Nat → Int32) (Ga : Nat → Int64) (Ra : Nat → Nat → Int32) (Sa : Nat → Nat → Int64) (p1 : Int32) (g0 : Int32) (hIF : mz_IF false Fa) (hIG : mz_IG Ga) (hIR : mz_IR [] true Ra) (hg_0 : Ra 3 0 = g0) : Met l yX13_manyOf (wl yX13_manyOf cX13_manyOf 4 (some .int)) ({ frames := 4, cells := 0, slots := 0, locals := 210 }) (mz_p D cy ld ad am Fa Ga Ra Sa [.ref am, .int p1]) (mz_j D cy ad am Fa Ga Ra Sa (fun r => 0 ≤ r.toInt ∧ 0 ≤ g0.toInt + (-1) * r.toInt ∧ 0 ≤ r.toInt ∧ r.toInt ≤ 8 ∧ r.toInt = cn (Ra 3) p1.toInt g0.toInt.toNat)) 0 0 (mz_W ad am) := by
  refine mz_met (y := yX13_manyOf) (cc := cX13_manyOf) (maxL := 4) (ret := (some .int)) (av := [.ref am, .int p1]) _ (by decide) (Nat.le_of_ble_eq_true rfl) ?_
  intro p e s m args below meth c hx hb hr hml hts htl hown hlocks hK H locs hM hS ls hl
  have hown : s.vm.findClass RX13 = some m.cls := hown
  have hl : lv_has ls 4 [(0, .ref am), (1, .int p1)] := hl
  have hr_p1 := tk_rng p1
  have hq_g0 := tk_rng g0
  have hr_g0 : 0 ≤ g0.toInt ∧ g0.toInt ≤ 8 := by have h9 := mz_r3c 0 (hIR.at 3) hg_0 (by decide); unfold mE at h9; omega
  refine lv_iconst (v := 0) hx hb dX13_manyOf_0 (by decide) ?_
  refine lv_istore_n (lv' := [(2, .int 0), (0, .ref am), (1, .int p1)]) hx hb dX13_manyOf_1 rfl hl (by decide) rfl (fun ls hl => ?_)
  refine lv_iconst (v := 0) hx hb dX13_manyOf_2 (by decide) ?_
  refine lv_istore_n (lv' := [(3, .int 0), (2, .int 0), (0, .ref am), (1, .int p1)]) hx hb dX13_manyOf_3 rfl hl (by decide) rfl (fun ls hl => ?_)
  have hl87 : ∀ (N_l87 : Nat) (v18 : Int32) (v19 : Int32) (H : Heap) (locs : List Loc), (0 ≤ v19.toInt) → (0 ≤ v18.toInt + (-1) * v19.toInt) → (0 ≤ g0.toInt + (-1) * v18.toInt) → (mz_S D cy ad am Fa Ga Ra Sa H) → (va_S (mz_W ad am) s.heap H locs) → (v19.toInt = cn (Ra 3) p1.toInt v18.toInt.toNat) → ((-1) * v18.toInt + 8 < (N_l87 : Int)) → ∀ ls : Array Slot, lv_has ls 4 [(3, .int v18), (2, .int v19), (0, .ref am), (1, .int p1)] → W p l e ({ frames := 4, cells := 0, slots := 0, locals := 210 }) s m args below meth c H locs 0 0 (MQ below (mz_j D cy ad am Fa Ga Ra Sa (fun r => 0 ≤ r.toInt ∧ 0 ≤ g0.toInt + (-1) * r.toInt ∧ 0 ≤ r.toInt ∧ r.toInt ≤ 8 ∧ r.toInt = cn (Ra 3) p1.toInt g0.toInt.toNat)) args s 0 0 (mz_W ad am)) (F0 m 4 ls []) := by
    intro N_l87
    induction N_l87 with
    | zero => intro v18 v19 H locs hq0_l87 hq1_l87 hq2_l87 hM hS hcn hm_l87 ls hl; exfalso; omega
    | succ N_l87 ih_l87 =>
      intro v18 v19 H locs hq0_l87 hq1_l87 hq2_l87 hM hS hcn hm_l87 ls hl
      refine lv_iload_n hx hb dX13_manyOf_4 rfl (lv_at hl 0 rfl) ?_
      refine lv_aload_n hx hb dX13_manyOf_5 rfl (lv_at hl 2 rfl) ?_
      refine mz_getR hx hb htl hown hK hM 3 (Nat.le_of_ble_eq_true rfl) (Nat.le_of_ble_eq_true rfl) (htl _ mw_188) (fun _ h9 => h9) dX13_manyOf_6 ?_
      refine lv_iconst (v := 0) hx hb dX13_manyOf_9 (by decide) ?_
      refine mz_iald hx hb hK hM 3 (Nat.le_of_ble_eq_true rfl) rfl (nn := 5560) rfl (I := 0) (by decide) (by decide) (by decide) dX13_manyOf_10 (fun v9 e9 => ?_)
      refine fx_ti (v := g0) (e9.symm.trans (show Ra 3 (0 : Int32).toNatClampNeg = _ from hg_0)) ?_
      refine lv_icmp_ge (tgt := 38) hx hb dX13_manyOf_11 (by decide) (fun c9 => ?_) (fun c9 => ?_)
      · have hc88 : g0.toInt ≤ v18.toInt := (fi_le rfl rfl).mp c9
        refine lv_iload_n hx hb dX13_manyOf_38 rfl (lv_at hl 1 rfl) ?_
        exact mz_jret (v := v19) hx hb hr rfl hlocks ⟨(by omega), (by omega), (by omega), (by omega), (by rw [show g0.toInt.toNat = v18.toInt.toNat by omega]; exact hcn)⟩ hM hS dX13_manyOf_39
      · have hc88 : ¬ (g0.toInt ≤ v18.toInt) := fun h9 => c9 ((fi_le rfl rfl).mpr h9)
        refine lv_iload_n hx hb dX13_manyOf_14 rfl (lv_at hl 1 rfl) ?_
        refine lv_aload_n hx hb dX13_manyOf_15 rfl (lv_at hl 2 rfl) ?_
        refine lv_iload_n hx hb dX13_manyOf_16 rfl (lv_at hl 0 rfl) ?_
        refine lv_iconst (v := 2) hx hb dX13_manyOf_17 (by decide) ?_
        have hk_2 : (2 : Int32).toInt = 2 := by decide
        refine mz_Vj (As := [.int v18, .int 2]) (rest := [.int v19]) ⟨hx, hb, hml, hown, hts⟩ hK hM hS (k_X13_ofSinger_2_x l D cy ld ad am hD _ _ _ _ v18 hIF hIG hIR (by omega) (by omega)) ⟨callB_of 2 hts (wl_in mw_324) rfl rfl rfl (htl _ mw_5) (htl _ mw_321) hd_yX13_ofSinger ⟨(Nat.le_of_ble_eq_true rfl), (Nat.le_of_ble_eq_true rfl)⟩, htl _ mw_322, htl _ mw_323⟩ rfl hl.1 rfl (Nat.le_of_ble_eq_true rfl) dX13_manyOf_18 ⟨(Nat.le_of_ble_eq_true rfl), (Nat.le_of_ble_eq_true rfl)⟩ (fun v89 H locs hpo hM hS => ?_)
        obtain ⟨hpo90, hpo91, hx92⟩ := hpo
        have hq_v89 := tk_rng v89
        refine lv_iload_n hx hb dX13_manyOf_21 rfl (lv_at hl 3 rfl) ?_
        refine lv_icmp_ne (tgt := 29) hx hb dX13_manyOf_22 (by decide) (fun c9 => ?_) (fun c9 => ?_)
        · have hc94 : ¬ (v89.toInt = p1.toInt) := fun h9 => c9 ((fi_eq rfl rfl).mpr h9)
          refine lv_iconst (v := 0) hx hb dX13_manyOf_29 (by decide) ?_
          refine lv_iadd hx hb dX13_manyOf_30 ?_
          refine tk_add rfl (show (0 : Int32).toInt = 0 by decide) (by omega) (by omega) (fun v95 h_v95 => ?_)
          refine lv_istore_n (lv' := [(2, .int v95), (3, .int v18), (0, .ref am), (1, .int p1)]) hx hb dX13_manyOf_31 rfl hl (by decide) rfl (fun ls hl => ?_)
          obtain ⟨v96, h_v96, e_v96⟩ := tk_inc v18 1 (by decide) (by omega) (by omega)
          refine lv_iinc (v := v96) (lv' := [(3, .int v96), (2, .int v95), (0, .ref am), (1, .int p1)]) hx hb dX13_manyOf_32 hl (k := 1) rfl e_v96 (by decide) rfl (fun ls hl => ?_)
          refine lv_goto (tgt := 4) hx hb dX13_manyOf_35 (by decide) ?_
          exact ih_l87 v96 v95 _ _ (by omega) (by omega) (by omega) hM hS (by rw [show v96.toInt.toNat = v18.toInt.toNat + 1 by omega]; exact cn.up hcn hx92 (fun h9 => by omega) (fun h9 => by omega)) (by omega) _ (lv_sub hl [0, 1, 2, 3] rfl)
        · have hc94 : v89.toInt = p1.toInt := (fi_eq rfl rfl).mp c9
          refine lv_iconst (v := 1) hx hb dX13_manyOf_25 (by decide) ?_
          refine lv_goto (tgt := 30) hx hb dX13_manyOf_26 (by decide) ?_
          refine lv_iadd hx hb dX13_manyOf_30 ?_
          refine tk_add rfl (show (1 : Int32).toInt = 1 by decide) (by omega) (by omega) (fun v97 h_v97 => ?_)
          refine lv_istore_n (lv' := [(2, .int v97), (3, .int v18), (0, .ref am), (1, .int p1)]) hx hb dX13_manyOf_31 rfl hl (by decide) rfl (fun ls hl => ?_)
          obtain ⟨v98, h_v98, e_v98⟩ := tk_inc v18 1 (by decide) (by omega) (by omega)
          refine lv_iinc (v := v98) (lv' := [(3, .int v98), (2, .int v97), (0, .ref am), (1, .int p1)]) hx hb dX13_manyOf_32 hl (k := 1) rfl e_v98 (by decide) rfl (fun ls hl => ?_)
          refine lv_goto (tgt := 4) hx hb dX13_manyOf_35 (by decide) ?_
          exact ih_l87 v98 v97 _ _ (by omega) (by omega) (by omega) hM hS (by rw [show v98.toInt.toNat = v18.toInt.toNat + 1 by omega]; exact cn.up hcn hx92 (fun h9 => by omega) (fun h9 => by omega)) (by omega) _ (lv_sub hl [0, 1, 2, 3] rfl)
  have hk_0 : (0 : Int32).toInt = 0 := by decide
  have hk_0 : (0 : Int32).toInt = 0 := by decide
  exact hl87 9 0 0 _ _ (by omega) (by omega) (by omega) hM hS (by rw [show (0 : Int32).toInt.toNat = 0 by decide]; show (0 : Int32).toInt = (0 : Int); decide) (by omega) _ (lv_sub hl [0, 1, 2, 3] rfl)
end
section
theorem hd_yX13_manyOf : yX13_manyOf.cls ≠ "java/lang/invoke/MethodHandle" ∧ yX13_manyOf.cls ≠ "java/lang/invoke/VarHandle" ∧ (parseMethodDescriptor yX13_manyOf.desc).map (fun d => d.parameters.length) = some 1 := by decide +kernel
theorem dX13_drawSinger_0 : decode cX13_drawSinger 0 = .ok (.aload_n 0, 1) := by decide +kernel
theorem dX13_drawSinger_1 : decode cX13_drawSinger 1 = .ok (.aload_n 0, 1) := by decide +kernel
theorem dX13_drawSinger_2 : decode cX13_drawSinger 2 = .ok (.iload_n 1, 1) := by decide +kernel
theorem dX13_drawSinger_3 : decode cX13_drawSinger 3 = .ok (.invokevirtual 635, 3) := by decide +kernel
theorem dX13_drawSinger_6 : decode cX13_drawSinger 6 = .ok (.invokevirtual 516, 3) := by decide +kernel
theorem dX13_drawSinger_9 : decode cX13_drawSinger 9 = .ok (.istore_n 2, 1) := by decide +kernel
theorem dX13_drawSinger_10 : decode cX13_drawSinger 10 = .ok (.iconst 0, 1) := by decide +kernel
theorem dX13_drawSinger_11 : decode cX13_drawSinger 11 = .ok (.istore_n 3, 1) := by decide +kernel
theorem dX13_drawSinger_12 : decode cX13_drawSinger 12 = .ok (.aload_n 0, 1) := by decide +kernel
theorem dX13_drawSinger_13 : decode cX13_drawSinger 13 = .ok (.iload_n 3, 1) := by decide +kernel
theorem dX13_drawSinger_14 : decode cX13_drawSinger 14 = .ok (.iconst 2, 1) := by decide +kernel
theorem dX13_drawSinger_15 : decode cX13_drawSinger 15 = .ok (.invokevirtual 207, 3) := by decide +kernel
theorem dX13_drawSinger_18 : decode cX13_drawSinger 18 = .ok (.iload_n 1, 1) := by decide +kernel
theorem dX13_drawSinger_19 : decode cX13_drawSinger 19 = .ok (.if_icmp .ne 7, 3) := by decide +kernel
theorem dX13_drawSinger_26 : decode cX13_drawSinger 26 = .ok (.iload_n 2, 1) := by decide +kernel
theorem dX13_drawSinger_27 : decode cX13_drawSinger 27 = .ok (.aload_n 0, 1) := by decide +kernel
theorem dX13_drawSinger_28 : decode cX13_drawSinger 28 = .ok (.iload_n 3, 1) := by decide +kernel
theorem dX13_drawSinger_29 : decode cX13_drawSinger 29 = .ok (.iconst 2, 1) := by decide +kernel
theorem dX13_drawSinger_30 : decode cX13_drawSinger 30 = .ok (.invokevirtual 207, 3) := by decide +kernel
theorem dX13_drawSinger_33 : decode cX13_drawSinger 33 = .ok (.iload_n 1, 1) := by decide +kernel
theorem dX13_drawSinger_34 : decode cX13_drawSinger 34 = .ok (.if_icmp .ne 7, 3) := by decide +kernel
theorem dX13_drawSinger_41 : decode cX13_drawSinger 41 = .ok (.iconst 0, 1) := by decide +kernel
theorem dX13_drawSinger_42 : decode cX13_drawSinger 42 = .ok (.isub, 1) := by decide +kernel
theorem dX13_drawSinger_43 : decode cX13_drawSinger 43 = .ok (.istore_n 2, 1) := by decide +kernel
theorem dX13_drawSinger_44 : decode cX13_drawSinger 44 = .ok (.iinc 3 1, 3) := by decide +kernel
theorem dX13_drawSinger_47 : decode cX13_drawSinger 47 = .ok (.goto (-35), 3) := by decide +kernel
theorem dX13_drawSinger_22 : decode cX13_drawSinger 22 = .ok (.iload_n 2, 1) := by decide +kernel
theorem dX13_drawSinger_23 : decode cX13_drawSinger 23 = .ok (.ifCond .le 27, 3) := by decide +kernel
theorem dX13_drawSinger_50 : decode cX13_drawSinger 50 = .ok (.iload_n 3, 1) := by decide +kernel
theorem dX13_drawSinger_51 : decode cX13_drawSinger 51 = .ok (.ireturn, 1) := by decide +kernel
theorem dX13_drawSinger_37 : decode cX13_drawSinger 37 = .ok (.iconst 1, 1) := by decide +kernel
theorem dX13_drawSinger_38 : decode cX13_drawSinger 38 = .ok (.goto 4, 3) := by decide +kernel
set_option maxHeartbeats 4000000 in
set_option maxRecDepth 100000 in
theorem k_X13_drawSinger (l : Launch) (D : va_G) (cy : Nat → ClassId) (ld ad : Nat → Nat) (am : Nat) (hD : mz_D ad am) (Fa : Nat → Int32) (Ga : Nat → Int64) (Ra : Nat → Nat → Int32) (Sa : Nat → Nat → Int64) (p1 : Int32) (g0 : Int32) (hIF : mz_IF true Fa) (hIG : mz_IG Ga) (hIR : mz_IR [] true Ra) (hg_0 : Ra 3 0 = g0) (hx_0 : 1 ≤ cn (Ra 3) p1.toInt g0.toInt.toNat) : Met l yX13_drawSinger (wl yX13_drawSinger cX13_drawSinger 4 (some .int)) ({ frames := 5, cells := 0, slots := 0, locals := 280 }) (mz_p D cy ld ad am Fa Ga Ra Sa [.ref am, .int p1]) (mz_i D cy ad am (fun r F G R S => mz_IF true F ∧ mz_IG G ∧ mz_IR [] true R ∧ (∀ k : Nat, k ∉ ([] : List Nat) → F k = Fa k) ∧ (∀ k : Nat, k ∉ ([] : List Nat) → R k = Ra k) ∧ (∀ k : Nat, k ∉ ([47] : List Nat) → G k = Ga k) ∧ 0 ≤ r.toInt ∧ r.toInt ≤ 7 ∧ 0 ≤ r.toInt ∧ r.toInt ≤ 7)) 0 0 (mz_W ad am) := by
  refine mz_met (y := yX13_drawSinger) (cc := cX13_drawSinger) (maxL := 4) (ret := (some .int)) (av := [.ref am, .int p1]) _ (by decide) (Nat.le_of_ble_eq_true rfl) ?_
  intro p e s m args below meth c hx hb hr hml hts htl hown hlocks hK H locs hM hS ls hl
  have hown : s.vm.findClass RX13 = some m.cls := hown
  have hl : lv_has ls 4 [(0, .ref am), (1, .int p1)] := hl
  have hr_p1 := tk_rng p1
  have hq_g0 := tk_rng g0
  have hr_g0 : 0 ≤ g0.toInt ∧ g0.toInt ≤ 8 := by have h9 := mz_r3c 0 (hIR.at 3) hg_0 (by decide); unfold mE at h9; omega
  refine lv_aload_n hx hb dX13_drawSinger_0 rfl (lv_at hl 0 rfl) ?_
  refine lv_aload_n hx hb dX13_drawSinger_1 rfl (lv_at hl 0 rfl) ?_
  refine lv_iload_n hx hb dX13_drawSinger_2 rfl (lv_at hl 1 rfl) ?_
  refine mz_Vj (As := [.int p1]) (rest := [.ref am]) ⟨hx, hb, hml, hown, hts⟩ hK hM hS (k_X13_manyOf_x l D cy ld ad am hD _ _ _ _ p1 g0 (hIF.weak) hIG hIR hg_0) ⟨callB_of 1 hts (wl_in mw_1688) rfl rfl rfl (htl _ mw_5) (htl _ mw_1685) hd_yX13_manyOf ⟨(Nat.le_of_ble_eq_true rfl), (Nat.le_of_ble_eq_true rfl)⟩, htl _ mw_1686, htl _ mw_1687⟩ rfl hl.1 rfl (Nat.le_of_ble_eq_true rfl) dX13_drawSinger_3 ⟨(Nat.le_of_ble_eq_true rfl), (Nat.le_of_ble_eq_true rfl)⟩ (fun v1 H locs hpo hM hS => ?_)
  obtain ⟨hpo2, hpo3, hpo4, hpo5, hx6⟩ := hpo
  have hq_v1 := tk_rng v1
  have hm1 : 1 ≤ v1.toInt := by rw [hx6]; exact hx_0
  refine mz_Vi (As := [.int v1]) (rest := []) ⟨hx, hb, hml, hown, hts⟩ hK hM hS (k_X13_draw l D cy ld ad am hD _ _ _ _ v1 hIF hIG hIR (by omega) (by omega)) ⟨callB_of 1 hts (wl_in mw_1385) rfl rfl rfl (htl _ mw_5) (htl _ mw_1382) hd_yX13_draw ⟨(Nat.le_of_ble_eq_true rfl), (Nat.le_of_ble_eq_true rfl)⟩, htl _ mw_1383, htl _ mw_1384⟩ rfl hl.1 rfl (Nat.le_of_ble_eq_true rfl) dX13_drawSinger_6 ⟨(Nat.le_of_ble_eq_true rfl), (Nat.le_of_ble_eq_true rfl)⟩ (fun v11 H locs F G R S hpo hM hS => ?_)
  obtain ⟨hIF, hIG, hIR, hfr9, hrr9, hgr9, hpo12, hpo13, hpo14, hpo15⟩ := hpo
  have hq_v11 := tk_rng v11
  have hFF := mz_fr (K := []) (Fa := Fa) hfr9 (fun _ _ => rfl) (by decide)
  have hRR := mz_fr (K := []) (Fa := Ra) hrr9 (fun _ _ => rfl) (by decide)
  have hGG := mz_fr (K := [47]) (Fa := Ga) hgr9 (fun _ _ => rfl) (by decide)
  have hg_0 : R 3 0 = _ := (congrFun (hrr9 3 (by decide)) 0).trans hg_0
  have hcn0 : v11.toInt + cn (R 3) p1.toInt 0 < cn (R 3) p1.toInt g0.toInt.toNat := by rw [hRR 3 (by decide), ← hx6]; show v11.toInt + 0 < _; omega
  refine lv_istore_n (lv' := [(2, .int v11), (0, .ref am), (1, .int p1)]) hx hb dX13_drawSinger_9 rfl hl (by decide) rfl (fun ls hl => ?_)
  refine lv_iconst (v := 0) hx hb dX13_drawSinger_10 (by decide) ?_
  refine lv_istore_n (lv' := [(3, .int 0), (2, .int v11), (0, .ref am), (1, .int p1)]) hx hb dX13_drawSinger_11 rfl hl (by decide) rfl (fun ls hl => ?_)
  have hl177 : ∀ (N_l177 : Nat) (v42 : Int32) (v43 : Int32) (H : Heap) (locs : List Loc), (0 ≤ v42.toInt) → (0 ≤ v11.toInt + (-1) * v43.toInt) → (0 ≤ g0.toInt + (-1) * v42.toInt) → (0 ≤ v43.toInt) → (mz_S D cy ad am F G R S H) → (va_S (mz_W ad am) s.heap H locs) → (v43.toInt + cn (R 3) p1.toInt v42.toInt.toNat < cn (R 3) p1.toInt g0.toInt.toNat) → ((-1) * v42.toInt + 8 < (N_l177 : Int)) → ∀ ls : Array Slot, lv_has ls 4 [(3, .int v42), (2, .int v43), (0, .ref am), (1, .int p1)] → W p l e ({ frames := 5, cells := 0, slots := 0, locals := 280 }) s m args below meth c H locs 0 0 (MQ below (mz_i D cy ad am (fun r F G R S => mz_IF true F ∧ mz_IG G ∧ mz_IR [] true R ∧ (∀ k : Nat, k ∉ ([] : List Nat) → F k = Fa k) ∧ (∀ k : Nat, k ∉ ([] : List Nat) → R k = Ra k) ∧ (∀ k : Nat, k ∉ ([47] : List Nat) → G k = Ga k) ∧ 0 ≤ r.toInt ∧ r.toInt ≤ 7 ∧ 0 ≤ r.toInt ∧ r.toInt ≤ 7)) args s 0 0 (mz_W ad am)) (F0 m 12 ls []) := by
    intro N_l177
    induction N_l177 with
    | zero => intro v42 v43 H locs hq0_l177 hq1_l177 hq2_l177 hq3_l177 hM hS hcl hm_l177 ls hl; exfalso; omega
    | succ N_l177 ih_l177 =>
      intro v42 v43 H locs hq0_l177 hq1_l177 hq2_l177 hq3_l177 hM hS hcl hm_l177 ls hl
      refine lv_aload_n hx hb dX13_drawSinger_12 rfl (lv_at hl 2 rfl) ?_
      have hsN : v42.toInt + 1 ≤ g0.toInt := by have h9 := cn.lt hcl (by omega); omega
      refine lv_iload_n hx hb dX13_drawSinger_13 rfl (lv_at hl 0 rfl) ?_
      refine lv_iconst (v := 2) hx hb dX13_drawSinger_14 (by decide) ?_
      have hk_2 : (2 : Int32).toInt = 2 := by decide
      refine mz_Vj (As := [.int v42, .int 2]) (rest := []) ⟨hx, hb, hml, hown, hts⟩ hK hM hS (k_X13_ofSinger_2_x l D cy ld ad am hD _ _ _ _ v42 (hIF.weak) hIG hIR (by omega) (by omega)) ⟨callB_of 2 hts (wl_in mw_324) rfl rfl rfl (htl _ mw_5) (htl _ mw_321) hd_yX13_ofSinger ⟨(Nat.le_of_ble_eq_true rfl), (Nat.le_of_ble_eq_true rfl)⟩, htl _ mw_322, htl _ mw_323⟩ rfl hl.1 rfl (Nat.le_of_ble_eq_true rfl) dX13_drawSinger_15 ⟨(Nat.le_of_ble_eq_true rfl), (Nat.le_of_ble_eq_true rfl)⟩ (fun v178 H locs hpo hM hS => ?_)
      obtain ⟨hpo179, hpo180, hx181⟩ := hpo
      have hq_v178 := tk_rng v178
      refine lv_iload_n hx hb dX13_drawSinger_18 rfl (lv_at hl 3 rfl) ?_
      refine lv_icmp_ne (tgt := 26) hx hb dX13_drawSinger_19 (by decide) (fun c9 => ?_) (fun c9 => ?_)
      · have hc183 : ¬ (v178.toInt = p1.toInt) := fun h9 => c9 ((fi_eq rfl rfl).mpr h9)
        refine lv_iload_n hx hb dX13_drawSinger_26 rfl (lv_at hl 1 rfl) ?_
        refine lv_aload_n hx hb dX13_drawSinger_27 rfl (lv_at hl 2 rfl) ?_
        refine lv_iload_n hx hb dX13_drawSinger_28 rfl (lv_at hl 0 rfl) ?_
        refine lv_iconst (v := 2) hx hb dX13_drawSinger_29 (by decide) ?_
        have hk_2 : (2 : Int32).toInt = 2 := by decide
        refine mz_Vj (As := [.int v42, .int 2]) (rest := [.int v43]) ⟨hx, hb, hml, hown, hts⟩ hK hM hS (k_X13_ofSinger_2_x l D cy ld ad am hD _ _ _ _ v42 (hIF.weak) hIG hIR (by omega) (by omega)) ⟨callB_of 2 hts (wl_in mw_324) rfl rfl rfl (htl _ mw_5) (htl _ mw_321) hd_yX13_ofSinger ⟨(Nat.le_of_ble_eq_true rfl), (Nat.le_of_ble_eq_true rfl)⟩, htl _ mw_322, htl _ mw_323⟩ rfl hl.1 rfl (Nat.le_of_ble_eq_true rfl) dX13_drawSinger_30 ⟨(Nat.le_of_ble_eq_true rfl), (Nat.le_of_ble_eq_true rfl)⟩ (fun v184 H locs hpo hM hS => ?_)
        obtain ⟨hpo185, hpo186, hx187⟩ := hpo
        have hq_v184 := tk_rng v184
        have h12_v184 : v178.toInt = v184.toInt := congrArg Int32.toInt (hx181.trans hx187.symm)
        refine lv_iload_n hx hb dX13_drawSinger_33 rfl (lv_at hl 3 rfl) ?_
        refine lv_icmp_ne (tgt := 41) hx hb dX13_drawSinger_34 (by decide) (fun c9 => ?_) (fun c9 => ?_)
        · have hc189 : ¬ (v184.toInt = p1.toInt) := fun h9 => c9 ((fi_eq rfl rfl).mpr h9)
          refine lv_iconst (v := 0) hx hb dX13_drawSinger_41 (by decide) ?_
          refine lv_isub hx hb dX13_drawSinger_42 ?_
          refine tk_sub rfl (show (0 : Int32).toInt = 0 by decide) (by omega) (by omega) (fun v190 h_v190 => ?_)
          refine lv_istore_n (lv' := [(2, .int v190), (3, .int v42), (0, .ref am), (1, .int p1)]) hx hb dX13_drawSinger_43 rfl hl (by decide) rfl (fun ls hl => ?_)
          obtain ⟨v191, h_v191, e_v191⟩ := tk_inc v42 1 (by decide) (by omega) (by omega)
          refine lv_iinc (v := v191) (lv' := [(3, .int v191), (2, .int v190), (0, .ref am), (1, .int p1)]) hx hb dX13_drawSinger_44 hl (k := 1) rfl e_v191 (by decide) rfl (fun ls hl => ?_)
          refine lv_goto (tgt := 12) hx hb dX13_drawSinger_47 (by decide) ?_
          exact ih_l177 v191 v190 _ _ (by omega) (by omega) (by omega) (by omega) hM hS (by rw [show v191.toInt.toNat = v42.toInt.toNat + 1 by omega]; exact cn.dn hcl hx187 (fun h9 => by omega) (fun h9 => by omega)) (by omega) _ (lv_sub hl [0, 1, 2, 3] rfl)
        · have hc189 : v184.toInt = p1.toInt := (fi_eq rfl rfl).mp c9
          exfalso
          omega
      · have hc183 : v178.toInt = p1.toInt := (fi_eq rfl rfl).mp c9
        refine lv_iload_n hx hb dX13_drawSinger_22 rfl (lv_at hl 1 rfl) ?_
        refine lv_if_le (tgt := 50) hx hb dX13_drawSinger_23 (by decide) (fun c9 => ?_) (fun c9 => ?_)
        · have hc192 : v43.toInt ≤ 0 := (fi_le rfl (show (0 : Int32).toInt = 0 by decide)).mp c9
          refine lv_iload_n hx hb dX13_drawSinger_50 rfl (lv_at hl 0 rfl) ?_
          exact mz_iret (v := v42) hx hb hr rfl hlocks ⟨hIF, hIG, hIR, hFF, hRR, hGG, (by omega), (by omega), (by omega), (by omega)⟩ hM hS dX13_drawSinger_51
        · have hc192 : ¬ (v43.toInt ≤ 0) := fun h9 => c9 ((fi_le rfl (show (0 : Int32).toInt = 0 by decide)).mpr h9)
          refine lv_iload_n hx hb dX13_drawSinger_26 rfl (lv_at hl 1 rfl) ?_
          refine lv_aload_n hx hb dX13_drawSinger_27 rfl (lv_at hl 2 rfl) ?_
          refine lv_iload_n hx hb dX13_drawSinger_28 rfl (lv_at hl 0 rfl) ?_
          refine lv_iconst (v := 2) hx hb dX13_drawSinger_29 (by decide) ?_
          have hk_2 : (2 : Int32).toInt = 2 := by decide
          refine mz_Vj (As := [.int v42, .int 2]) (rest := [.int v43]) ⟨hx, hb, hml, hown, hts⟩ hK hM hS (k_X13_ofSinger_2_x l D cy ld ad am hD _ _ _ _ v42 (hIF.weak) hIG hIR (by omega) (by omega)) ⟨callB_of 2 hts (wl_in mw_324) rfl rfl rfl (htl _ mw_5) (htl _ mw_321) hd_yX13_ofSinger ⟨(Nat.le_of_ble_eq_true rfl), (Nat.le_of_ble_eq_true rfl)⟩, htl _ mw_322, htl _ mw_323⟩ rfl hl.1 rfl (Nat.le_of_ble_eq_true rfl) dX13_drawSinger_30 ⟨(Nat.le_of_ble_eq_true rfl), (Nat.le_of_ble_eq_true rfl)⟩ (fun v193 H locs hpo hM hS => ?_)
          obtain ⟨hpo194, hpo195, hx196⟩ := hpo
          have hq_v193 := tk_rng v193
          have h12_v193 : v178.toInt = v193.toInt := congrArg Int32.toInt (hx181.trans hx196.symm)
          refine lv_iload_n hx hb dX13_drawSinger_33 rfl (lv_at hl 3 rfl) ?_
          refine lv_icmp_ne (tgt := 41) hx hb dX13_drawSinger_34 (by decide) (fun c9 => absurd ((fi_eq rfl rfl).mpr (show v193.toInt = p1.toInt by omega)) c9) (fun _ => ?_)
          refine lv_iconst (v := 1) hx hb dX13_drawSinger_37 (by decide) ?_
          refine lv_goto (tgt := 42) hx hb dX13_drawSinger_38 (by decide) ?_
          refine lv_isub hx hb dX13_drawSinger_42 ?_
          refine tk_sub rfl (show (1 : Int32).toInt = 1 by decide) (by omega) (by omega) (fun v198 h_v198 => ?_)
          refine lv_istore_n (lv' := [(2, .int v198), (3, .int v42), (0, .ref am), (1, .int p1)]) hx hb dX13_drawSinger_43 rfl hl (by decide) rfl (fun ls hl => ?_)
          obtain ⟨v199, h_v199, e_v199⟩ := tk_inc v42 1 (by decide) (by omega) (by omega)
          refine lv_iinc (v := v199) (lv' := [(3, .int v199), (2, .int v198), (0, .ref am), (1, .int p1)]) hx hb dX13_drawSinger_44 hl (k := 1) rfl e_v199 (by decide) rfl (fun ls hl => ?_)
          refine lv_goto (tgt := 12) hx hb dX13_drawSinger_47 (by decide) ?_
          exact ih_l177 v199 v198 _ _ (by omega) (by omega) (by omega) (by omega) hM hS (by rw [show v199.toInt.toNat = v42.toInt.toNat + 1 by omega]; exact cn.dn hcl hx196 (fun h9 => by omega) (fun h9 => by omega)) (by omega) _ (lv_sub hl [0, 1, 2, 3] rfl)
  have hk_0 : (0 : Int32).toInt = 0 := by decide
  exact hl177 9 0 v11 _ _ (by omega) (by omega) (by omega) (by omega) hM hS (by rw [show (0 : Int32).toInt.toNat = 0 by decide]; exact hcn0) (by omega) _ (lv_sub hl [0, 1, 2, 3] rfl)
end
