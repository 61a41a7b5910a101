/-- how many of the first s SINGERS are of CLAN c -/
def cn (f : Nat → Int32) (c : Int) : Nat → Int
  | 0 => 0
  | s + 1 => cn f c s + (if (f (20 + 5 * s)).toInt = c then 1 else 0)
theorem cn.s (f : Nat → Int32) (c : Int) (s : Nat) : cn f c (s + 1) = cn f c s + (if (f (20 + 5 * s)).toInt = c then 1 else 0) := rfl
theorem cn.mono (f : Nat → Int32) (c : Int) (s : Nat) : ∀ d : Nat, cn f c s ≤ cn f c (s + d) := by
  intro d
  induction d with
  | zero => exact Int.le_refl _
  | succ d ih =>
    have h := cn.s f c (s + d)
    rw [← Nat.add_assoc, h]
    split <;> omega
theorem cn.up {f : Nat → Int32} {c n n1 : Int} {s : Nat} {r : Int32} (h : n = cn f c s) (hr : r = f (20 + 5 * s)) (h1 : r.toInt = c → n1 = n + 1) (h0 : ¬ r.toInt = c → n1 = n) : n1 = cn f c (s + 1) := by
  rw [cn.s, ← hr, ← h]
  split
  · exact h1 (by assumption)
  · rw [h0 (by assumption)]
    omega
theorem cn.dn {f : Nat → Int32} {c left left1 N : Int} {s : Nat} {r : Int32} (h : left + cn f c s < N) (hr : r = f (20 + 5 * s)) (h1 : r.toInt = c → left1 = left - 1) (h0 : ¬ r.toInt = c → left1 = left) : left1 + cn f c (s + 1) < N := by
  rw [cn.s, ← hr]
  split
  · rw [h1 (by assumption)]
    omega
  · rw [h0 (by assumption)]
    omega
theorem cn.lt {f : Nat → Int32} {c left : Int} {s N : Nat} (h : left + cn f c s < cn f c N) (h0 : 0 ≤ left) : s < N := by
  by_cases e : s < N
  · exact e
  · have h9 := cn.mono f c N (s - N)
    rw [show N + (s - N) = s by omega] at h9
    omega
theorem cn.rel {f g : Nat → Int32} {c : Int} (h : rK2 f g) : ∀ s : Nat, s ≤ 8 → cn g c s = cn f c s := by
  intro s
  induction s with
  | zero => intro _; rfl
  | succ s ih =>
    intro hs
    rw [cn.s, cn.s, ih (by omega), h (20 + 5 * s) (by omega)]
set_option maxHeartbeats 4000000 in
set_option maxRecDepth 100000 in
theorem k_X13_manyOf_x (l : Launch) (D : va_G) (cy : Nat → ClassId) (ld ad : Nat → Nat) (am : Nat) (hD : mz_D ad am) (Fa : Nat → Int32) (Ga : Nat → Int64) (Ra : Nat → Nat → Int32) (Sa : Nat → Nat → Int64) (p1 : Int32) (g0 : Int32) (hIF : mz_IF false Fa) (hIG : mz_IG Ga) (hIR : mz_IR [] true Ra) (hg_0 : Ra 3 0 = g0) : Met l yX13_manyOf (wl yX13_manyOf cX13_manyOf 4 (some .int)) ({ frames := 4, cells := 0, slots := 0, locals := 210 }) (mz_p D cy ld ad am Fa Ga Ra Sa [.ref am, .int p1]) (mz_j D cy ad am Fa Ga Ra Sa (fun r => 0 ≤ r.toInt ∧ 0 ≤ g0.toInt + (-1) * r.toInt ∧ 0 ≤ r.toInt ∧ r.toInt ≤ 8 ∧ r.toInt = cn (Ra 3) p1.toInt g0.toInt.toNat)) 0 0 (mz_W ad am) := by
  refine mz_met (y := yX13_manyOf) (cc := cX13_manyOf) (maxL := 4) (ret := (some .int)) (av := [.ref am, .int p1]) _ (by decide) (Nat.le_of_ble_eq_true rfl) ?_
  intro p e s m args below meth c hx hb hr hml hts htl hown hlocks hK H locs hM hS ls hl
  have hown : s.vm.findClass RX13 = some m.cls := hown
  have hl : lv_has ls 4 [(0, .ref am), (1, .int p1)] := hl
  have hr_p1 := tk_rng p1
  have hq_g0 := tk_rng g0
  have hr_g0 : 0 ≤ g0.toInt ∧ g0.toInt ≤ 8 := by have h9 := mz_r3c 0 (hIR.at 3) hg_0 (by decide); unfold mE at h9; omega
  refine lv_iconst (v := 0) hx hb dX13_manyOf_0 (by decide) ?_
  refine lv_istore_n (lv' := [(2, .int 0), (0, .ref am), (1, .int p1)]) hx hb dX13_manyOf_1 rfl hl (by decide) rfl (fun ls hl => ?_)
  refine lv_iconst (v := 0) hx hb dX13_manyOf_2 (by decide) ?_
  refine lv_istore_n (lv' := [(3, .int 0), (2, .int 0), (0, .ref am), (1, .int p1)]) hx hb dX13_manyOf_3 rfl hl (by decide) rfl (fun ls hl => ?_)
  have hl87 : ∀ (N_l87 : Nat) (v18 : Int32) (v19 : Int32) (H : Heap) (locs : List Loc), (0 ≤ v19.toInt) → (0 ≤ v18.toInt + (-1) * v19.toInt) → (0 ≤ g0.toInt + (-1) * v18.toInt) → (mz_S D cy ad am Fa Ga Ra Sa H) → (va_S (mz_W ad am) s.heap H locs) → (v19.toInt = cn (Ra 3) p1.toInt v18.toInt.toNat) → ((-1) * v18.toInt + 8 < (N_l87 : Int)) → ∀ ls : Array Slot, lv_has ls 4 [(3, .int v18), (2, .int v19), (0, .ref am), (1, .int p1)] → W p l e ({ frames := 4, cells := 0, slots := 0, locals := 210 }) s m args below meth c H locs 0 0 (MQ below (mz_j D cy ad am Fa Ga Ra Sa (fun r => 0 ≤ r.toInt ∧ 0 ≤ g0.toInt + (-1) * r.toInt ∧ 0 ≤ r.toInt ∧ r.toInt ≤ 8 ∧ r.toInt = cn (Ra 3) p1.toInt g0.toInt.toNat)) args s 0 0 (mz_W ad am)) (F0 m 4 ls []) := by
    intro N_l87
    induction N_l87 with
    | zero => intro v18 v19 H locs hq0_l87 hq1_l87 hq2_l87 hM hS hcn hm_l87 ls hl; exfalso; omega
    | succ N_l87 ih_l87 =>
      intro v18 v19 H locs hq0_l87 hq1_l87 hq2_l87 hM hS hcn hm_l87 ls hl
      refine lv_iload_n hx hb dX13_manyOf_4 rfl (lv_at hl 0 rfl) ?_
      refine lv_aload_n hx hb dX13_manyOf_5 rfl (lv_at hl 2 rfl) ?_
      refine mz_getR hx hb htl hown hK hM 3 (Nat.le_of_ble_eq_true rfl) (Nat.le_of_ble_eq_true rfl) (htl _ mw_188) (fun _ h9 => h9) dX13_manyOf_6 ?_
      refine lv_iconst (v := 0) hx hb dX13_manyOf_9 (by decide) ?_
      refine mz_iald hx hb hK hM 3 (Nat.le_of_ble_eq_true rfl) rfl (nn := 5560) rfl (I := 0) (by decide) (by decide) (by decide) dX13_manyOf_10 (fun v9 e9 => ?_)
      refine fx_ti (v := g0) (e9.symm.trans (show Ra 3 (0 : Int32).toNatClampNeg = _ from hg_0)) ?_
      refine lv_icmp_ge (tgt := 38) hx hb dX13_manyOf_11 (by decide) (fun c9 => ?_) (fun c9 => ?_)
      · have hc88 : g0.toInt ≤ v18.toInt := (fi_le rfl rfl).mp c9
        refine lv_iload_n hx hb dX13_manyOf_38 rfl (lv_at hl 1 rfl) ?_
        exact mz_jret (v := v19) hx hb hr rfl hlocks ⟨(by omega), (by omega), (by omega), (by omega), (by rw [show g0.toInt.toNat = v18.toInt.toNat by omega]; exact hcn)⟩ hM hS dX13_manyOf_39
      · have hc88 : ¬ (g0.toInt ≤ v18.toInt) := fun h9 => c9 ((fi_le rfl rfl).mpr h9)
        refine lv_iload_n hx hb dX13_manyOf_14 rfl (lv_at hl 1 rfl) ?_
        refine lv_aload_n hx hb dX13_manyOf_15 rfl (lv_at hl 2 rfl) ?_
        refine lv_iload_n hx hb dX13_manyOf_16 rfl (lv_at hl 0 rfl) ?_
        refine lv_iconst (v := 2) hx hb dX13_manyOf_17 (by decide) ?_
        have hk_2 : (2 : Int32).toInt = 2 := by decide
        refine mz_Vj (As := [.int v18, .int 2]) (rest := [.int v19]) ⟨hx, hb, hml, hown, hts⟩ hK hM hS (k_X13_ofSinger_2_x l D cy ld ad am hD _ _ _ _ v18 hIF hIG hIR (by omega) (by omega)) ⟨callB_of 2 hts (wl_in mw_324) rfl rfl rfl (htl _ mw_5) (htl _ mw_321) hd_yX13_ofSinger ⟨(Nat.le_of_ble_eq_true rfl), (Nat.le_of_ble_eq_true rfl)⟩, htl _ mw_322, htl _ mw_323⟩ rfl hl.1 rfl (Nat.le_of_ble_eq_true rfl) dX13_manyOf_18 ⟨(Nat.le_of_ble_eq_true rfl), (Nat.le_of_ble_eq_true rfl)⟩ (fun v89 H locs hpo hM hS => ?_)
        obtain ⟨hpo90, hpo91, hx92⟩ := hpo
        have hq_v89 := tk_rng v89
        refine lv_iload_n hx hb dX13_manyOf_21 rfl (lv_at hl 3 rfl) ?_
        refine lv_icmp_ne (tgt := 29) hx hb dX13_manyOf_22 (by decide) (fun c9 => ?_) (fun c9 => ?_)
        · have hc94 : ¬ (v89.toInt = p1.toInt) := fun h9 => c9 ((fi_eq rfl rfl).mpr h9)
          refine lv_iconst (v := 0) hx hb dX13_manyOf_29 (by decide) ?_
          refine lv_iadd hx hb dX13_manyOf_30 ?_
          refine tk_add rfl (show (0 : Int32).toInt = 0 by decide) (by omega) (by omega) (fun v95 h_v95 => ?_)
          refine lv_istore_n (lv' := [(2, .int v95), (3, .int v18), (0, .ref am), (1, .int p1)]) hx hb dX13_manyOf_31 rfl hl (by decide) rfl (fun ls hl => ?_)
          obtain ⟨v96, h_v96, e_v96⟩ := tk_inc v18 1 (by decide) (by omega) (by omega)
          refine lv_iinc (v := v96) (lv' := [(3, .int v96), (2, .int v95), (0, .ref am), (1, .int p1)]) hx hb dX13_manyOf_32 hl (k := 1) rfl e_v96 (by decide) rfl (fun ls hl => ?_)
          refine lv_goto (tgt := 4) hx hb dX13_manyOf_35 (by decide) ?_
          exact ih_l87 v96 v95 _ _ (by omega) (by omega) (by omega) hM hS (by rw [show v96.toInt.toNat = v18.toInt.toNat + 1 by omega]; exact cn.up hcn hx92 (fun h9 => by omega) (fun h9 => by omega)) (by omega) _ (lv_sub hl [0, 1, 2, 3] rfl)
        · have hc94 : v89.toInt = p1.toInt := (fi_eq rfl rfl).mp c9
          refine lv_iconst (v := 1) hx hb dX13_manyOf_25 (by decide) ?_
          refine lv_goto (tgt := 30) hx hb dX13_manyOf_26 (by decide) ?_
          refine lv_iadd hx hb dX13_manyOf_30 ?_
          refine tk_add rfl (show (1 : Int32).toInt = 1 by decide) (by omega) (by omega) (fun v97 h_v97 => ?_)
          refine lv_istore_n (lv' := [(2, .int v97), (3, .int v18), (0, .ref am), (1, .int p1)]) hx hb dX13_manyOf_31 rfl hl (by decide) rfl (fun ls hl => ?_)
          obtain ⟨v98, h_v98, e_v98⟩ := tk_inc v18 1 (by decide) (by omega) (by omega)
          refine lv_iinc (v := v98) (lv' := [(3, .int v98), (2, .int v97), (0, .ref am), (1, .int p1)]) hx hb dX13_manyOf_32 hl (k := 1) rfl e_v98 (by decide) rfl (fun ls hl => ?_)
          refine lv_goto (tgt := 4) hx hb dX13_manyOf_35 (by decide) ?_
          exact ih_l87 v98 v97 _ _ (by omega) (by omega) (by omega) hM hS (by rw [show v98.toInt.toNat = v18.toInt.toNat + 1 by omega]; exact cn.up hcn hx92 (fun h9 => by omega) (fun h9 => by omega)) (by omega) _ (lv_sub hl [0, 1, 2, 3] rfl)
  have hk_0 : (0 : Int32).toInt = 0 := by decide
  have hk_0 : (0 : Int32).toInt = 0 := by decide
  exact hl87 9 0 0 _ _ (by omega) (by omega) (by omega) hM hS (by rw [show (0 : Int32).toInt.toNat = 0 by decide]; show (0 : Int32).toInt = (0 : Int); decide) (by omega) _ (lv_sub hl [0, 1, 2, 3] rfl)
