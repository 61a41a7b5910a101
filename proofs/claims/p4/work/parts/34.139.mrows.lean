set_option maxHeartbeats 4000000 in
set_option maxRecDepth 100000 in
theorem k_X13_putBack_x (l : Launch) (D : va_G) (cy : Nat → ClassId) (ld ad : Nat → Nat) (am : Nat) (hD : mz_D ad am) (Fa : Nat → Int32) (Ga : Nat → Int64) (Ra : Nat → Nat → Int32) (Sa : Nat → Nat → Int64) (p1 : Int32) (hIF : mz_IF true Fa) (hIG : mz_IG Ga) (hIR : mz_IR [] true Ra) (hp_0 : 0 ≤ p1.toInt) (hp_1 : p1.toInt ≤ 22) : Met l yX13_putBack (wl yX13_putBack cX13_putBack 3 none) ({ frames := 3, cells := 0, slots := 0, locals := 140 }) (mz_p D cy ld ad am Fa Ga Ra Sa [.ref am, .int p1]) (mz_w D cy ad am (fun F G R S => mz_IF true F ∧ mz_IG G ∧ mz_IR [] true R ∧ (∀ k : Nat, k ∉ ([] : List Nat) → F k = Fa k) ∧ (∀ k : Nat, k ∉ ([3] : List Nat) → R k = Ra k) ∧ (∀ k : Nat, k ∉ ([] : List Nat) → G k = Ga k) ∧ rK1 (Ra 3) (R 3) ∧ R 3 = va_cpy (Ra 6) (Ra 3) (52 * p1.toInt.toNat) 6 52)) 0 0 (mz_W ad am) := by
  refine mz_met (y := yX13_putBack) (cc := cX13_putBack) (maxL := 3) (ret := none) (av := [.ref am, .int p1]) _ (by decide) (Nat.le_of_ble_eq_true rfl) ?_
  intro p e s m args below meth c hx hb hr hml hts htl hown hlocks hK H locs hM hS ls hl
  have hown : s.vm.findClass RX13 = some m.cls := hown
  have hl : lv_has ls 3 [(0, .ref am), (1, .int p1)] := hl
  have hr_p1 := tk_rng p1
  refine lv_iconst (v := 0) hx hb dX13_putBack_0 (by decide) ?_
  refine lv_istore_n (lv' := [(2, .int 0), (0, .ref am), (1, .int p1)]) hx hb dX13_putBack_1 rfl hl (by decide) rfl (fun ls hl => ?_)
  have hI9 := hIR
  have hIR := hIR.hole (X := [3])
  obtain ⟨cf, ecf⟩ : ∃ z : Nat → Int32, Ra 6 = z := ⟨_, rfl⟩
  obtain ⟨cg, ecg⟩ : ∃ z : Nat → Int32, Ra 3 = z := ⟨_, rfl⟩
  have hl62 : ∀ (N_l62 : Nat) (v13 : Int32) (H : Heap) (locs : List Loc) (R : Nat → Nat → Int32), (0 ≤ v13.toInt) → (v13.toInt ≤ 52) → (mz_S D cy ad am Fa Ga R Sa H) → (va_S (mz_W ad am) s.heap H locs) → (mz_IR [3] true R) → (∀ k : Nat, k ∉ ([3] : List Nat) → R k = Ra k) → (rK1 (Ra 3) (R 3)) → (R 3 = va_cpy cf cg (52 * p1.toInt.toNat) 6 v13.toInt.toNat) → (R 6 = cf) → ((-1) * v13.toInt + 57 < (N_l62 : Int)) → ∀ ls : Array Slot, lv_has ls 3 [(2, .int v13), (0, .ref am), (1, .int p1)] → W p l e ({ frames := 3, cells := 0, slots := 0, locals := 140 }) s m args below meth c H locs 0 0 (MQ below (mz_w D cy ad am (fun F G R S => mz_IF true F ∧ mz_IG G ∧ mz_IR [] true R ∧ (∀ k : Nat, k ∉ ([] : List Nat) → F k = Fa k) ∧ (∀ k : Nat, k ∉ ([3] : List Nat) → R k = Ra k) ∧ (∀ k : Nat, k ∉ ([] : List Nat) → G k = Ga k) ∧ rK1 (Ra 3) (R 3) ∧ R 3 = va_cpy (Ra 6) (Ra 3) (52 * p1.toInt.toNat) 6 52)) args s 0 0 (mz_W ad am)) (F0 m 2 ls []) := by
    intro N_l62
    induction N_l62 with
    | zero => intro v13 H locs R hq0_l62 hq1_l62 hM hS hIR hRR hrel hcp hcs hm_l62 ls hl; exfalso; omega
    | succ N_l62 ih_l62 =>
      intro v13 H locs R hq0_l62 hq1_l62 hM hS hIR hRR hrel hcp hcs hm_l62 ls hl
      refine lv_iload_n hx hb dX13_putBack_2 rfl (lv_at hl 0 rfl) ?_
      refine lv_bipush (v := 52) hx hb dX13_putBack_3 (by decide) ?_
      refine lv_icmp_ge (tgt := 34) hx hb dX13_putBack_5 (by decide) (fun c9 => ?_) (fun c9 => ?_)
      · have hc63 : 52 ≤ v13.toInt := (fi_le (show (52 : Int32).toInt = 52 by decide) rfl).mp c9
        have e9 : v13.toInt.toNat = 52 := by omega
        rw [e9] at hcp
        have hIR := hIR.close (by rw [hcp]; exact mz_back3 (by rw [← ecg]; exact hI9.at 3) ((show ∀ s : Nat, s < 23 → sO cf (52 * s) by rw [← ecf]; exact hI9.at 6) p1.toInt.toNat (by omega)))
        exact mz_vret hx hb hr hlocks ⟨hIF, hIG, hIR, (fun _ _ => rfl), hRR, (fun _ _ => rfl), hrel, (by rw [hcp, ecf, ecg])⟩ hM hS dX13_putBack_34
      · have hc63 : ¬ (52 ≤ v13.toInt) := fun h9 => c9 ((fi_le (show (52 : Int32).toInt = 52 by decide) rfl).mpr h9)
        refine lv_aload_n hx hb dX13_putBack_8 rfl (lv_at hl 1 rfl) ?_
        refine mz_getR hx hb htl hown hK hM 3 (Nat.le_of_ble_eq_true rfl) (Nat.le_of_ble_eq_true rfl) (htl _ mw_188) (fun _ h9 => h9) dX13_putBack_9 ?_
        refine lv_bipush (v := 6) hx hb dX13_putBack_12 (by decide) ?_
        refine lv_iload_n hx hb dX13_putBack_14 rfl (lv_at hl 0 rfl) ?_
        refine lv_iadd hx hb dX13_putBack_15 ?_
        refine tk_add (show (6 : Int32).toInt = 6 by decide) rfl (by omega) (by omega) (fun v64 h_v64 => ?_)
        refine lv_aload_n hx hb dX13_putBack_16 rfl (lv_at hl 1 rfl) ?_
        refine mz_getR hx hb htl hown hK hM 6 (Nat.le_of_ble_eq_true rfl) (Nat.le_of_ble_eq_true rfl) (htl _ mw_191) (fun _ h9 => h9) dX13_putBack_17 ?_
        refine lv_bipush (v := 52) hx hb dX13_putBack_20 (by decide) ?_
        refine lv_iload_n hx hb dX13_putBack_22 rfl (lv_at hl 2 rfl) ?_
        refine lv_imul hx hb dX13_putBack_23 ?_
        refine tk_mul (show (52 : Int32).toInt = 52 by decide) rfl (by omega) (by omega) (fun v65 h_v65 => ?_)
        refine lv_iload_n hx hb dX13_putBack_24 rfl (lv_at hl 0 rfl) ?_
        refine lv_iadd hx hb dX13_putBack_25 ?_
        refine tk_add rfl rfl (by omega) (by omega) (fun v66 h_v66 => ?_)
        refine mz_iald hx hb hK hM 6 (Nat.le_of_ble_eq_true rfl) rfl (nn := 1196) rfl rfl (by omega) (by omega) dX13_putBack_26 (fun v67 e_v67 => ?_)
        have hq_v67 := tk_rng v67
        refine mz_iast (x := v67) hx hb hK hD hM hS 3 (Nat.le_of_ble_eq_true rfl) rfl (nn := 5560) rfl rfl (by omega) (by omega) dX13_putBack_27 (fun H locs R hM hS hw9 hj9 => ?_)
        have hIR := hIR.putX hj9 (by decide)
        have hcp := mz_cps (sp := (52 * p1.toInt.toNat)) (dp := 6) (n := v13.toInt.toNat) hw9 hcp (by omega) (by rw [← e_v67, hcs]; congr 1; have h9 := tk_nat (i := v66) rfl (by omega); omega)
        have hcs := (hj9 6 (by decide)).trans hcs
        have hRR := mz_frp (K := [3]) (Fa := Ra) hj9 hRR (by decide)
        have hrel := rK1.put (I := v64.toInt) hrel hw9 rfl (by omega) (by omega)
        have e_v67 : R 6 (v66 : Int32).toNatClampNeg = _ := (congrFun (hj9 6 (by decide)) _).trans e_v67
        obtain ⟨v69, h_v69, e_v69⟩ := tk_inc v13 1 (by decide) (by omega) (by omega)
        refine lv_iinc (v := v69) (lv' := [(2, .int v69), (0, .ref am), (1, .int p1)]) hx hb dX13_putBack_28 hl (k := 0) rfl e_v69 (by decide) rfl (fun ls hl => ?_)
        refine lv_goto (tgt := 2) hx hb dX13_putBack_31 (by decide) ?_
        exact ih_l62 v69 _ _ _ (by omega) (by omega) hM hS hIR hRR hrel (by rw [show v69.toInt.toNat = v13.toInt.toNat + 1 by omega]; exact hcp) hcs (by omega) _ (lv_sub hl [0, 1, 2] rfl)
  have hk_0 : (0 : Int32).toInt = 0 := by decide
  exact hl62 58 0 _ _ _ (by omega) (by omega) hM hS hIR (fun _ _ => rfl) (rK1.refl rfl) (by rw [show (0 : Int32).toInt.toNat = 0 by decide, mz_cp0]; exact ecg) ecf (by omega) _ (lv_sub hl [0, 1, 2] rfl)
