/-- a DUEL stands in each snapshot of the levels so far -/
def sn (f : Nat → Int32) (k : Int) : Prop := ∀ j : Nat, (j : Int) ≤ k → 0 ≤ (f (52 * (16 + j) + 6)).toInt
theorem sn.le {f g : Nat → Int32} {k k1 : Int} (h : sn f k) (e : g = f) (hk : k1 ≤ k) : sn g k1 := fun j hj => by
  rw [e]
  exact h j (by omega)
theorem sn.up {f g g6 : Nat → Int32} {k k1 : Int} {n : Nat} (h : sn g k) (hk : k1 = k + 1) (he : g6 = va_cpy f g 6 (52 * n) 52) (hn : (n : Int) = 16 + k1) (h12 : 0 ≤ (f 12).toInt) : sn g6 k1 := fun j hj => by
  rw [he]
  by_cases e : (j : Int) = k1
  · rw [mz_cpin (by omega) (by omega), show 6 + (52 * (16 + j) + 6 - 52 * n) = 12 by omega]
    exact h12
  · rw [mz_cpout (by omega)]
    exact h j (by omega)
theorem sn.back {g r q : Nat → Int32} {k : Int} {n : Nat} (h : sn g k) (he : r = va_cpy g q (52 * n) 6 52) (h0 : 16 ≤ n) (hn : (n : Int) ≤ 16 + k) : 0 ≤ (r 12).toInt := by
  rw [he, mz_cpin (by omega) (by omega)]
  have h9 := h (n - 16) (by omega)
  rw [show 52 * n + (12 - 6) = 52 * (16 + (n - 16)) + 6 by omega]
  exact h9
set_option maxHeartbeats 4000000 in
set_option maxRecDepth 100000 in
theorem k_X13_keepAll_x (l : Launch) (D : va_G) (cy : Nat → ClassId) (ld ad : Nat → Nat) (am : Nat) (hD : mz_D ad am) (Fa : Nat → Int32) (Ga : Nat → Int64) (Ra : Nat → Nat → Int32) (Sa : Nat → Nat → Int64) (p1 : Int32) (hIF : mz_IF true Fa) (hIG : mz_IG Ga) (hIR : mz_IR [] true Ra) (hp_0 : 0 ≤ p1.toInt) (hp_1 : p1.toInt ≤ 22) : Met l yX13_keepAll (wl yX13_keepAll cX13_keepAll 3 none) ({ frames := 3, cells := 0, slots := 0, locals := 140 }) (mz_p D cy ld ad am Fa Ga Ra Sa [.ref am, .int p1]) (mz_w D cy ad am (fun F G R S => mz_IF true F ∧ mz_IG G ∧ mz_IR [] true R ∧ (∀ k : Nat, k ∉ ([] : List Nat) → F k = Fa k) ∧ (∀ k : Nat, k ∉ ([6] : List Nat) → R k = Ra k) ∧ (∀ k : Nat, k ∉ ([] : List Nat) → G k = Ga k) ∧ R 6 = va_cpy (Ra 3) (Ra 6) 6 (52 * p1.toInt.toNat) 52)) 0 0 (mz_W ad am) := by
  refine mz_met (y := yX13_keepAll) (cc := cX13_keepAll) (maxL := 3) (ret := none) (av := [.ref am, .int p1]) _ (by decide) (Nat.le_of_ble_eq_true rfl) ?_
  intro p e s m args below meth c hx hb hr hml hts htl hown hlocks hK H locs hM hS ls hl
  have hown : s.vm.findClass RX13 = some m.cls := hown
  have hl : lv_has ls 3 [(0, .ref am), (1, .int p1)] := hl
  have hr_p1 := tk_rng p1
  refine lv_iconst (v := 0) hx hb dX13_keepAll_0 (by decide) ?_
  refine lv_istore_n (lv' := [(2, .int 0), (0, .ref am), (1, .int p1)]) hx hb dX13_keepAll_1 rfl hl (by decide) rfl (fun ls hl => ?_)
  have hI9 := hIR
  have hIR := hIR.hole (X := [6])
  obtain ⟨cf, ecf⟩ : ∃ z : Nat → Int32, Ra 3 = z := ⟨_, rfl⟩
  obtain ⟨cg, ecg⟩ : ∃ z : Nat → Int32, Ra 6 = z := ⟨_, rfl⟩
  have hl62 : ∀ (N_l62 : Nat) (v13 : Int32) (H : Heap) (locs : List Loc) (R : Nat → Nat → Int32), (0 ≤ v13.toInt) → (v13.toInt ≤ 52) → (mz_S D cy ad am Fa Ga R Sa H) → (va_S (mz_W ad am) s.heap H locs) → (mz_IR [6] true R) → (∀ k : Nat, k ∉ ([6] : List Nat) → R k = Ra k) → (R 6 = va_cpy cf cg 6 (52 * p1.toInt.toNat) v13.toInt.toNat) → (R 3 = cf) → ((-1) * v13.toInt + 57 < (N_l62 : Int)) → ∀ ls : Array Slot, lv_has ls 3 [(2, .int v13), (0, .ref am), (1, .int p1)] → W p l e ({ frames := 3, cells := 0, slots := 0, locals := 140 }) s m args below meth c H locs 0 0 (MQ below (mz_w D cy ad am (fun F G R S => mz_IF true F ∧ mz_IG G ∧ mz_IR [] true R ∧ (∀ k : Nat, k ∉ ([] : List Nat) → F k = Fa k) ∧ (∀ k : Nat, k ∉ ([6] : List Nat) → R k = Ra k) ∧ (∀ k : Nat, k ∉ ([] : List Nat) → G k = Ga k) ∧ R 6 = va_cpy (Ra 3) (Ra 6) 6 (52 * p1.toInt.toNat) 52)) args s 0 0 (mz_W ad am)) (F0 m 2 ls []) := by
    intro N_l62
    induction N_l62 with
    | zero => intro v13 H locs R hq0_l62 hq1_l62 hM hS hIR hRR hcp hcs hm_l62 ls hl; exfalso; omega
    | succ N_l62 ih_l62 =>
      intro v13 H locs R hq0_l62 hq1_l62 hM hS hIR hRR hcp hcs hm_l62 ls hl
      refine lv_iload_n hx hb dX13_keepAll_2 rfl (lv_at hl 0 rfl) ?_
      refine lv_bipush (v := 52) hx hb dX13_keepAll_3 (by decide) ?_
      refine lv_icmp_ge (tgt := 34) hx hb dX13_keepAll_5 (by decide) (fun c9 => ?_) (fun c9 => ?_)
      · have hc63 : 52 ≤ v13.toInt := (fi_le (show (52 : Int32).toInt = 52 by decide) rfl).mp c9
        have e9 : v13.toInt.toNat = 52 := by omega
        rw [e9] at hcp
        have hIR := hIR.close (by rw [hcp]; exact mz_keep (by rw [← ecf]; exact hI9.at 3) (by rw [← ecg]; exact hI9.at 6) (by omega))
        exact mz_vret hx hb hr hlocks ⟨hIF, hIG, hIR, (fun _ _ => rfl), hRR, (fun _ _ => rfl), (by rw [hcp, ecf, ecg])⟩ hM hS dX13_keepAll_34
      · have hc63 : ¬ (52 ≤ v13.toInt) := fun h9 => c9 ((fi_le (show (52 : Int32).toInt = 52 by decide) rfl).mpr h9)
        refine lv_aload_n hx hb dX13_keepAll_8 rfl (lv_at hl 1 rfl) ?_
        refine mz_getR hx hb htl hown hK hM 6 (Nat.le_of_ble_eq_true rfl) (Nat.le_of_ble_eq_true rfl) (htl _ mw_191) (fun _ h9 => h9) dX13_keepAll_9 ?_
        refine lv_bipush (v := 52) hx hb dX13_keepAll_12 (by decide) ?_
        refine lv_iload_n hx hb dX13_keepAll_14 rfl (lv_at hl 2 rfl) ?_
        refine lv_imul hx hb dX13_keepAll_15 ?_
        refine tk_mul (show (52 : Int32).toInt = 52 by decide) rfl (by omega) (by omega) (fun v64 h_v64 => ?_)
        refine lv_iload_n hx hb dX13_keepAll_16 rfl (lv_at hl 0 rfl) ?_
        refine lv_iadd hx hb dX13_keepAll_17 ?_
        refine tk_add rfl rfl (by omega) (by omega) (fun v65 h_v65 => ?_)
        refine lv_aload_n hx hb dX13_keepAll_18 rfl (lv_at hl 1 rfl) ?_
        refine mz_getR hx hb htl hown hK hM 3 (Nat.le_of_ble_eq_true rfl) (Nat.le_of_ble_eq_true rfl) (htl _ mw_188) (fun _ h9 => h9) dX13_keepAll_19 ?_
        refine lv_bipush (v := 6) hx hb dX13_keepAll_22 (by decide) ?_
        refine lv_iload_n hx hb dX13_keepAll_24 rfl (lv_at hl 0 rfl) ?_
        refine lv_iadd hx hb dX13_keepAll_25 ?_
        refine tk_add (show (6 : Int32).toInt = 6 by decide) rfl (by omega) (by omega) (fun v66 h_v66 => ?_)
        refine mz_iald hx hb hK hM 3 (Nat.le_of_ble_eq_true rfl) rfl (nn := 5560) rfl rfl (by omega) (by omega) dX13_keepAll_26 (fun v67 e_v67 => ?_)
        have hq_v67 := tk_rng v67
        refine mz_iast (x := v67) hx hb hK hD hM hS 6 (Nat.le_of_ble_eq_true rfl) rfl (nn := 1196) rfl rfl (by omega) (by omega) dX13_keepAll_27 (fun H locs R hM hS hw9 hj9 => ?_)
        have hIR := hIR.putX hj9 (by decide)
        have hcp := mz_cps (sp := 6) (dp := (52 * p1.toInt.toNat)) (n := v13.toInt.toNat) hw9 hcp (by omega) (by rw [← e_v67, hcs]; congr 1; have h9 := tk_nat (i := v66) rfl (by omega); omega)
        have hcs := (hj9 3 (by decide)).trans hcs
        have hRR := mz_frp (K := [6]) (Fa := Ra) hj9 hRR (by decide)
        have e_v67 : R 3 (v66 : Int32).toNatClampNeg = _ := (congrFun (hj9 3 (by decide)) _).trans e_v67
        obtain ⟨v69, h_v69, e_v69⟩ := tk_inc v13 1 (by decide) (by omega) (by omega)
        refine lv_iinc (v := v69) (lv' := [(2, .int v69), (0, .ref am), (1, .int p1)]) hx hb dX13_keepAll_28 hl (k := 0) rfl e_v69 (by decide) rfl (fun ls hl => ?_)
        refine lv_goto (tgt := 2) hx hb dX13_keepAll_31 (by decide) ?_
        exact ih_l62 v69 _ _ _ (by omega) (by omega) hM hS hIR hRR (by rw [show v69.toInt.toNat = v13.toInt.toNat + 1 by omega]; exact hcp) hcs (by omega) _ (lv_sub hl [0, 1, 2] rfl)
  have hk_0 : (0 : Int32).toInt = 0 := by decide
  exact hl62 58 0 _ _ _ (by omega) (by omega) hM hS hIR (fun _ _ => rfl) (by rw [show (0 : Int32).toInt.toNat = 0 by decide, mz_cp0]; exact ecg) ecf (by omega) _ (lv_sub hl [0, 1, 2] rfl)
