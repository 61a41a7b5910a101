/-- how often the clauses are run -/
def TMS (cl : Nat → Int32) (n : Int) : Prop := ∀ c : Nat, (c : Int) < n → 0 ≤ (cl (10 * c + 9)).toInt ∧ (cl (10 * c + 9)).toInt ≤ 20
theorem TMS.none (cl : Nat → Int32) : TMS cl 0 := fun c h => absurd h (by omega)
theorem TMS.snoc {cl cl1 : Nat → Int32} {n n1 : Int} {N : Nat} {v : Int32} (h : TMS cl n) (hn : n = (N : Int)) (hn1 : n1 = n + 1) (hl : low (10 * N) cl cl1) (hv : cl1 (10 * N + 9) = v) (h0 : 0 ≤ v.toInt) (h1 : v.toInt ≤ 20) : TMS cl1 n1 := fun c hc => by
  by_cases e : c = N
  · subst e
    rw [hv]
    exact ⟨h0, h1⟩
  · rw [hl _ (by omega)]
    exact h c (by omega)
theorem zr_step {f g : Nat → Int32} {C k : Nat} {i x : Int32} (h : ∀ d : Nat, d < k → f (C + d) = 0) (hw : g = upd f i.toNatClampNeg x) (hi : i.toInt = ((C + k : Nat) : Int)) (hx : x = 0) : ∀ d : Nat, d < k + 1 → g (C + d) = 0 := fun d hd => by
  have hn := tk_nat hi (by omega)
  rw [hw]
  by_cases e : d = k
  · subst e
    rw [show i.toNatClampNeg = C + d by omega, pk_us, hx]
  · rw [pk_un (by omega)]
    exact h d (by omega)
theorem CLS.to3 {w : Nat} {ds : List Nat} {op arg op1 arg1 cl cl1 : Nat → Int32} {nC n : Int} (h : CLS w ds op arg cl nC n) (e1 : op1 = op) (e2 : arg1 = arg) (e3 : cl1 = cl) : CLS w ds op1 arg1 cl1 nC n := by
  subst e1
  subst e2
  subst e3
  exact h
theorem dX13_readSum_0 : decode cX13_readSum 0 = .ok (.aload_n 0, 1) := by decide +kernel
theorem dX13_readSum_1 : decode cX13_readSum 1 = .ok (.getfield 149, 3) := by decide +kernel
theorem dX13_readSum_4 : decode cX13_readSum 4 = .ok (.iload_n 1, 1) := by decide +kernel
theorem dX13_readSum_5 : decode cX13_readSum 5 = .ok (.aload_n 0, 1) := by decide +kernel
theorem dX13_readSum_6 : decode cX13_readSum 6 = .ok (.getfield 275, 3) := by decide +kernel
theorem dX13_readSum_9 : decode cX13_readSum 9 = .ok (.iastore, 1) := by decide +kernel
theorem dX13_readSum_10 : decode cX13_readSum 10 = .ok (.aload_n 0, 1) := by decide +kernel
theorem dX13_readSum_11 : decode cX13_readSum 11 = .ok (.getfield 236, 3) := by decide +kernel
theorem dX13_readSum_14 : decode cX13_readSum 14 = .ok (.ifCond .ne 8, 3) := by decide +kernel
theorem dX13_readSum_22 : decode cX13_readSum 22 = .ok (.aload_n 0, 1) := by decide +kernel
theorem dX13_readSum_23 : decode cX13_readSum 23 = .ok (.getfield 149, 3) := by decide +kernel
theorem dX13_readSum_26 : decode cX13_readSum 26 = .ok (.iload_n 1, 1) := by decide +kernel
theorem dX13_readSum_27 : decode cX13_readSum 27 = .ok (.iconst 1, 1) := by decide +kernel
theorem dX13_readSum_28 : decode cX13_readSum 28 = .ok (.iadd, 1) := by decide +kernel
theorem dX13_readSum_29 : decode cX13_readSum 29 = .ok (.aload_n 0, 1) := by decide +kernel
theorem dX13_readSum_30 : decode cX13_readSum 30 = .ok (.getfield 275, 3) := by decide +kernel
theorem dX13_readSum_33 : decode cX13_readSum 33 = .ok (.iastore, 1) := by decide +kernel
theorem dX13_readSum_34 : decode cX13_readSum 34 = .ok (.return_, 1) := by decide +kernel
theorem dX13_readSum_17 : decode cX13_readSum 17 = .ok (.aload_n 0, 1) := by decide +kernel
theorem dX13_readSum_18 : decode cX13_readSum 18 = .ok (.iconst 0, 1) := by decide +kernel
theorem dX13_readSum_19 : decode cX13_readSum 19 = .ok (.invokevirtual 372, 3) := by decide +kernel
set_option maxHeartbeats 4000000 in
set_option maxRecDepth 100000 in
theorem k_X13_readSum (l : Launch) (D : va_G) (cy : Nat → ClassId) (ld ad : Nat → Nat) (am : Nat) (hD : mz_D ad am) (Fa : Nat → Int32) (Ga : Nat → Int64) (Ra : Nat → Nat → Int32) (Sa : Nat → Nat → Int64) (p1 : Int32) (gf : Int32) (gt : Int32) (gs : Int32) (gp : Int32) (gw : Int64) (gb : Int32) (gc : Int32) (hIF : mz_IF false Fa) (hIG : mz_IG Ga) (hIR : mz_IR [] true Ra) (hg_0 : Fa 14 = gf) (hg_1 : Fa 15 = gt) (hg_2 : Fa 16 = gs) (hg_3 : Fa 13 = gp) (hg_4 : Ga 17 = gw) (hg_5 : Fa 19 = gb) (hg_6 : Fa 23 = gc) (hp_0 : 0 ≤ p1.toInt) (hp_1 : p1.toInt ≤ 118) (hp_2 : 0 ≤ (-1) * gf.toInt + gt.toInt) (hp_3 : 0 ≤ gp.toInt + (-1) * gt.toInt) (hp_4 : (1 ≤ gs.toInt → 0 ≤ (-1) * gf.toInt + gt.toInt + (-1))) (hp_5 : (27 ≤ gw.toInt → 1 ≤ gs.toInt → gs.toInt ≤ 1 → 0 ≤ (-1) * gf.toInt + gt.toInt + (-2))) (hp_6 : 0 ≤ (-1) * gc.toInt + gf.toInt) : Met l yX13_readSum (wl yX13_readSum cX13_readSum 2 none) ({ frames := 10, cells := 0, slots := 0, locals := 630 }) (mz_p D cy ld ad am Fa Ga Ra Sa [.ref am, .int p1]) (mz_w D cy ad am (fun F G R S => mz_IF false F ∧ mz_IG G ∧ mz_IR [] true R ∧ (∀ k : Nat, k ∉ ([14, 15, 16, 18, 19, 23, 26, 29, 30] : List Nat) → F k = Fa k) ∧ (∀ k : Nat, k ∉ ([24, 25, 27, 28, 61] : List Nat) → R k = Ra k) ∧ (∀ k : Nat, k ∉ ([17] : List Nat) → G k = Ga k) ∧ 0 ≤ (-1) * (F 14).toInt + (F 15).toInt ∧ 0 ≤ gp.toInt + (-1) * (F 15).toInt ∧ (1 ≤ (F 16).toInt → 0 ≤ (-1) * (F 14).toInt + (F 15).toInt + (-1)) ∧ (27 ≤ (G 17).toInt → 1 ≤ (F 16).toInt → (F 16).toInt ≤ 1 → 0 ≤ (-1) * (F 14).toInt + (F 15).toInt + (-2)) ∧ 0 ≤ (-1) * gf.toInt + (F 14).toInt ∧ 0 ≤ (-1) * gc.toInt + (F 23).toInt ∧ 0 ≤ (-1) * (F 23).toInt + (F 14).toInt ∧ 0 ≤ (-1) * gb.toInt + (F 19).toInt ∧ R 61 = upd (upd (Ra 61) p1.toInt.toNat gc) (p1.toInt.toNat + 1) (F 23) ∧ ((F 19).toInt = 0 → WFC (R 24) (R 25) gc.toInt.toNat (F 23).toInt.toNat ∧ low gc.toInt.toNat (Ra 24) (R 24) ∧ low gc.toInt.toNat (Ra 25) (R 25)))) 0 0 (mz_W ad am) := by
  refine mz_met (y := yX13_readSum) (cc := cX13_readSum) (maxL := 2) (ret := none) (av := [.ref am, .int p1]) _ (by decide) (Nat.le_of_ble_eq_true rfl) ?_
  intro p e s m args below meth c hx hb hr hml hts htl hown hlocks hK H locs hM hS ls hl
  have hown : s.vm.findClass RX13 = some m.cls := hown
  have hl : lv_has ls 2 [(0, .ref am), (1, .int p1)] := hl
  have hr_p1 := tk_rng p1
  have hq_gf := tk_rng gf
  have hq_gt := tk_rng gt
  have hq_gs := tk_rng gs
  have hq_gp := tk_rng gp
  have hq_gw := tk_rngL gw
  have hq_gb := tk_rng gb
  have hq_gc := tk_rng gc
  have hr_gf : 0 ≤ gf.toInt ∧ gf.toInt ≤ 400 := hIF.at hg_0
  have hr_gt : 0 ≤ gt.toInt ∧ gt.toInt ≤ 400 := hIF.at hg_1
  have hr_gs : 0 ≤ gs.toInt ∧ gs.toInt ≤ 3 := hIF.at hg_2
  have hr_gp : 0 ≤ gp.toInt ∧ gp.toInt ≤ 400 := hIF.at hg_3
  have hr_gb : 0 ≤ gb.toInt ∧ gb.toInt ≤ 1 := hIF.at hg_5
  have hr_gc : 0 ≤ gc.toInt ∧ gc.toInt ≤ 400 := hIF.at hg_6
  refine lv_aload_n hx hb dX13_readSum_0 rfl (lv_at hl 0 rfl) ?_
  refine mz_getR hx hb htl hown hK hM 61 (Nat.le_of_ble_eq_true rfl) (Nat.le_of_ble_eq_true rfl) (htl _ mw_239) (fun _ h9 => h9) dX13_readSum_1 ?_
  refine lv_iload_n hx hb dX13_readSum_4 rfl (lv_at hl 1 rfl) ?_
  refine lv_aload_n hx hb dX13_readSum_5 rfl (lv_at hl 0 rfl) ?_
  refine mz_getI hx hb htl hown hK hM 23 (Nat.le_of_ble_eq_true rfl) rfl (htl _ mw_670) (fun _ h9 => h9) dX13_readSum_6 (fun v9 e9 => ?_)
  refine fx_ti (v := gc) (e9.symm.trans hg_6) ?_
  refine mz_iast (x := gc) hx hb hK hD hM hS 61 (Nat.le_of_ble_eq_true rfl) rfl (nn := 120) rfl rfl (by omega) (by omega) dX13_readSum_9 (fun H locs R hM hS hw9 hj9 => ?_)
  have hIR := hIR.put hw9 hj9 trivial
  have hRR := mz_frp (K := [24, 25, 27, 28, 61]) (Fa := Ra) hj9 (fun _ _ => rfl) (by decide)
  have hre_24 : R 24 = Ra 24 := (hj9 24 (by decide)).trans (rfl : Ra 24 = Ra 24)
  have hre_25 : R 25 = Ra 25 := (hj9 25 (by decide)).trans (rfl : Ra 25 = Ra 25)
  have hre_61 : R 61 = upd (Ra 61) (p1 : Int32).toNatClampNeg gc := hw9.trans (congrArg (fun f => upd f (p1 : Int32).toNatClampNeg gc) (rfl : Ra 61 = Ra 61))
  refine lv_aload_n hx hb dX13_readSum_10 rfl (lv_at hl 0 rfl) ?_
  refine mz_getI hx hb htl hown hK hM 19 (Nat.le_of_ble_eq_true rfl) rfl (htl _ mw_668) (fun _ h9 => h9) dX13_readSum_11 (fun v9 e9 => ?_)
  refine fx_ti (v := gb) (e9.symm.trans hg_5) ?_
  refine lv_if_ne (tgt := 22) hx hb dX13_readSum_14 (by decide) (fun c9 => ?_) (fun c9 => ?_)
  · have hc2 : ¬ (gb.toInt = 0) := fun h9 => c9 ((fi_eq rfl (show (0 : Int32).toInt = 0 by decide)).mpr h9)
    refine lv_aload_n hx hb dX13_readSum_22 rfl (lv_at hl 0 rfl) ?_
    refine mz_getR hx hb htl hown hK hM 61 (Nat.le_of_ble_eq_true rfl) (Nat.le_of_ble_eq_true rfl) (htl _ mw_239) (fun _ h9 => h9) dX13_readSum_23 ?_
    refine lv_iload_n hx hb dX13_readSum_26 rfl (lv_at hl 1 rfl) ?_
    refine lv_iconst (v := 1) hx hb dX13_readSum_27 (by decide) ?_
    refine lv_iadd hx hb dX13_readSum_28 ?_
    refine tk_add rfl (show (1 : Int32).toInt = 1 by decide) (by omega) (by omega) (fun v3 h_v3 => ?_)
    refine lv_aload_n hx hb dX13_readSum_29 rfl (lv_at hl 0 rfl) ?_
    refine mz_getI hx hb htl hown hK hM 23 (Nat.le_of_ble_eq_true rfl) rfl (htl _ mw_670) (fun _ h9 => h9) dX13_readSum_30 (fun v9 e9 => ?_)
    refine fx_ti (v := gc) (e9.symm.trans hg_6) ?_
    refine mz_iast (x := gc) hx hb hK hD hM hS 61 (Nat.le_of_ble_eq_true rfl) rfl (nn := 120) rfl rfl (by omega) (by omega) dX13_readSum_33 (fun H locs R hM hS hw9 hj9 => ?_)
    have hIR := hIR.put hw9 hj9 trivial
    have hRR := mz_frp (K := [24, 25, 27, 28, 61]) (Fa := Ra) hj9 hRR (by decide)
    have hre_24 : R 24 = Ra 24 := (hj9 24 (by decide)).trans hre_24
    have hre_25 : R 25 = Ra 25 := (hj9 25 (by decide)).trans hre_25
    have hre_61 : R 61 = upd (upd (Ra 61) (p1 : Int32).toNatClampNeg gc) (v3 : Int32).toNatClampNeg gc := hw9.trans (congrArg (fun f => upd f (v3 : Int32).toNatClampNeg gc) hre_61)
    exact mz_vret hx hb hr hlocks ⟨hIF, hIG, hIR, (fun _ _ => rfl), hRR, (fun _ _ => rfl), (by rw [hg_0, hg_1]; omega), (by rw [hg_1]; omega), (by rw [hg_0, hg_1, hg_2]; omega), (by rw [hg_0, hg_1, hg_2, hg_4]; omega), (by rw [hg_0]; omega), (by rw [hg_6]; omega), (by rw [hg_0, hg_6]; omega), (by rw [hg_5]; omega), (by rw [hre_61, show (v3 : Int32).toNatClampNeg = p1.toInt.toNat + 1 by show v3.toInt.toNat = _; omega, hg_6]; rfl), (by rw [hg_5]; exact fun h9 => absurd h9 (by omega))⟩ hM hS dX13_readSum_34
  · have hc2 : gb.toInt = 0 := (fi_eq rfl (show (0 : Int32).toInt = 0 by decide)).mp c9
    refine lv_aload_n hx hb dX13_readSum_17 rfl (lv_at hl 0 rfl) ?_
    refine lv_iconst (v := 0) hx hb dX13_readSum_18 (by decide) ?_
    have hb24 := hre_24
    have hb25 := hre_25
    have hk_0 : (0 : Int32).toInt = 0 := by decide
    refine mz_Vv (As := [.int 0]) (rest := []) ⟨hx, hb, hml, hown, hts⟩ hK hM hS (k_X13_readExpression l D cy ld ad am hD _ _ _ _ 0 gf gt gs gp gw gb gc hIF hIG hIR hg_0 hg_1 hg_2 hg_3 hg_4 hg_5 hg_6 (by omega) (by omega) (by omega) (by omega) (by omega) (by omega) (by omega) (by omega)) ⟨callB_of 1 hts (wl_in mw_717) rfl rfl rfl (htl _ mw_5) (htl _ mw_714) hd_yX13_readExpression ⟨(Nat.le_of_ble_eq_true rfl), (Nat.le_of_ble_eq_true rfl)⟩, htl _ mw_715, htl _ mw_716⟩ rfl hl.1 rfl (Nat.le_of_ble_eq_true rfl) dX13_readSum_19 ⟨(Nat.le_of_ble_eq_true rfl), (Nat.le_of_ble_eq_true rfl)⟩ (fun H locs F G R S hpo hM hS => ?_)
    obtain ⟨hIF, hIG, hIR, hfr9, hrr9, hgr9, hpo5, hpo6, hpo10, hpo11, hpo12, hpo13, hpo14, hx15⟩ := hpo
    have hFF := mz_fr (K := [14, 15, 16, 18, 19, 23, 26, 29, 30]) (Fa := Fa) hfr9 (fun _ _ => rfl) (by decide)
    have hRR := mz_fr (K := [24, 25, 27, 28, 61]) (Fa := Ra) hrr9 hRR (by decide)
    have hGG := mz_fr (K := [17]) (Fa := Ga) hgr9 (fun _ _ => rfl) (by decide)
    have hre_61 : R 61 = upd (Ra 61) (p1 : Int32).toNatClampNeg gc := (hrr9 61 (by decide)).trans hre_61
    have hg_3 := (hfr9 13 (by decide)).trans hg_3
    obtain ⟨v18, hf17⟩ : ∃ z : Int32, F 14 = z := ⟨_, rfl⟩
    have hq_v18 := tk_rng v18
    rw [hf17] at hpo5 hpo10 hpo11 hpo12 hpo13
    have hr_v18 : 0 ≤ v18.toInt ∧ v18.toInt ≤ 400 := hIF.at hf17
    obtain ⟨v20, hf19⟩ : ∃ z : Int32, F 15 = z := ⟨_, rfl⟩
    have hq_v20 := tk_rng v20
    rw [hf19] at hpo5 hpo6 hpo10 hpo11
    have hr_v20 : 0 ≤ v20.toInt ∧ v20.toInt ≤ 400 := hIF.at hf19
    obtain ⟨v22, hf21⟩ : ∃ z : Int32, F 16 = z := ⟨_, rfl⟩
    have hq_v22 := tk_rng v22
    rw [hf21] at hpo10 hpo11
    have hr_v22 : 0 ≤ v22.toInt ∧ v22.toInt ≤ 3 := hIF.at hf21
    obtain ⟨w24, hf23⟩ : ∃ z : Int64, G 17 = z := ⟨_, rfl⟩
    have hq_w24 := tk_rngL w24
    rw [hf23] at hpo11
    obtain ⟨v26, hf25⟩ : ∃ z : Int32, F 19 = z := ⟨_, rfl⟩
    have hq_v26 := tk_rng v26
    have hr_v26 : 0 ≤ v26.toInt ∧ v26.toInt ≤ 1 := hIF.at hf25
    obtain ⟨v28, hf27⟩ : ∃ z : Int32, F 23 = z := ⟨_, rfl⟩
    have hq_v28 := tk_rng v28
    rw [hf27] at hpo13 hpo14
    have hr_v28 : 0 ≤ v28.toInt ∧ v28.toInt ≤ 400 := hIF.at hf27
    have hE : v26.toInt = 0 → WFC (R 24) (R 25) gc.toInt.toNat v28.toInt.toNat ∧ low gc.toInt.toNat (Ra 24) (R 24) ∧ low gc.toInt.toNat (Ra 25) (R 25) := fun h9 => by have h8 := hx15 (by rw [hf25]; exact h9); rw [hb24, hb25, hf27] at h8; exact h8
    refine lv_aload_n hx hb dX13_readSum_22 rfl (lv_at hl 0 rfl) ?_
    refine mz_getR hx hb htl hown hK hM 61 (Nat.le_of_ble_eq_true rfl) (Nat.le_of_ble_eq_true rfl) (htl _ mw_239) (fun _ h9 => h9) dX13_readSum_23 ?_
    refine lv_iload_n hx hb dX13_readSum_26 rfl (lv_at hl 1 rfl) ?_
    refine lv_iconst (v := 1) hx hb dX13_readSum_27 (by decide) ?_
    refine lv_iadd hx hb dX13_readSum_28 ?_
    refine tk_add rfl (show (1 : Int32).toInt = 1 by decide) (by omega) (by omega) (fun v29 h_v29 => ?_)
    refine lv_aload_n hx hb dX13_readSum_29 rfl (lv_at hl 0 rfl) ?_
    refine mz_getI hx hb htl hown hK hM 23 (Nat.le_of_ble_eq_true rfl) rfl (htl _ mw_670) (fun _ h9 => h9) dX13_readSum_30 (fun v9 e9 => ?_)
    refine fx_ti (v := v28) (e9.symm.trans hf27) ?_
    refine mz_iast (x := v28) hx hb hK hD hM hS 61 (Nat.le_of_ble_eq_true rfl) rfl (nn := 120) rfl rfl (by omega) (by omega) dX13_readSum_33 (fun H locs R hM hS hw9 hj9 => ?_)
    have hIR := hIR.put hw9 hj9 trivial
    have hE9 := hE
    have hE : v26.toInt = 0 → WFC (R 24) (R 25) gc.toInt.toNat v28.toInt.toNat ∧ low gc.toInt.toNat (Ra 24) (R 24) ∧ low gc.toInt.toNat (Ra 25) (R 25) := by rw [hj9 24 (by decide), hj9 25 (by decide)]; exact hE9
    have hRR := mz_frp (K := [24, 25, 27, 28, 61]) (Fa := Ra) hj9 hRR (by decide)
    have hre_61 : R 61 = upd (upd (Ra 61) (p1 : Int32).toNatClampNeg gc) (v29 : Int32).toNatClampNeg v28 := hw9.trans (congrArg (fun f => upd f (v29 : Int32).toNatClampNeg v28) hre_61)
    exact mz_vret hx hb hr hlocks ⟨hIF, hIG, hIR, hFF, hRR, hGG, (by rw [hf17, hf19]; omega), (by rw [hf19]; omega), (by rw [hf17, hf19, hf21]; omega), (by rw [hf17, hf19, hf21, hf23]; omega), (by rw [hf17]; omega), (by rw [hf27]; omega), (by rw [hf17, hf27]; omega), (by rw [hf25]; omega), (by rw [hre_61, show (v29 : Int32).toNatClampNeg = p1.toInt.toNat + 1 by show v29.toInt.toNat = _; omega, hf27]; rfl), (by rw [hf25, hf27]; exact hE)⟩ hM hS dX13_readSum_34
