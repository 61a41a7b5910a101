/-- how often the clauses are run -/
def TMS (cl : Nat → Int32) (n : Int) : Prop := ∀ c : Nat, (c : Int) < n → 0 ≤ (cl (10 * c + 9)).toInt ∧ (cl (10 * c + 9)).toInt ≤ 20
theorem TMS.none (cl : Nat → Int32) : TMS cl 0 := fun c h => absurd h (by omega)
theorem TMS.snoc {cl cl1 : Nat → Int32} {n n1 : Int} {N : Nat} {v : Int32} (h : TMS cl n) (hn : n = (N : Int)) (hn1 : n1 = n + 1) (hl : low (10 * N) cl cl1) (hv : cl1 (10 * N + 9) = v) (h0 : 0 ≤ v.toInt) (h1 : v.toInt ≤ 20) : TMS cl1 n1 := fun c hc => by
  by_cases e : c = N
  · subst e
    rw [hv]
    exact ⟨h0, h1⟩
  · rw [hl _ (by omega)]
    exact h c (by omega)
theorem zr_step {f g : Nat → Int32} {C k : Nat} {i x : Int32} (h : ∀ d : Nat, d < k → f (C + d) = 0) (hw : g = upd f i.toNatClampNeg x) (hi : i.toInt = ((C + k : Nat) : Int)) (hx : x = 0) : ∀ d : Nat, d < k + 1 → g (C + d) = 0 := fun d hd => by
  have hn := tk_nat hi (by omega)
  rw [hw]
  by_cases e : d = k
  · subst e
    rw [show i.toNatClampNeg = C + d by omega, pk_us, hx]
  · rw [pk_un (by omega)]
    exact h d (by omega)
theorem CLS.to3 {w : Nat} {ds : List Nat} {op arg op1 arg1 cl cl1 : Nat → Int32} {nC n : Int} (h : CLS w ds op arg cl nC n) (e1 : op1 = op) (e2 : arg1 = arg) (e3 : cl1 = cl) : CLS w ds op1 arg1 cl1 nC n := by
  subst e1
  subst e2
  subst e3
  exact h
theorem dX13_readSum_0 : decode cX13_readSum 0 = .ok (.aload_n 0, 1) := by decide +kernel
theorem dX13_readSum_1 : decode cX13_readSum 1 = .ok (.getfield 149, 3) := by decide +kernel
theorem dX13_readSum_4 : decode cX13_readSum 4 = .ok (.iload_n 1, 1) := by decide +kernel
theorem dX13_readSum_5 : decode cX13_readSum 5 = .ok (.aload_n 0, 1) := by decide +kernel
theorem dX13_readSum_6 : decode cX13_readSum 6 = .ok (.getfield 275, 3) := by decide +kernel
theorem dX13_readSum_9 : decode cX13_readSum 9 = .ok (.iastore, 1) := by decide +kernel
theorem dX13_readSum_10 : decode cX13_readSum 10 = .ok (.aload_n 0, 1) := by decide +kernel
theorem dX13_readSum_11 : decode cX13_readSum 11 = .ok (.getfield 236, 3) := by decide +kernel
theorem dX13_readSum_14 : decode cX13_readSum 14 = .ok (.ifCond .ne 8, 3) := by decide +kernel
theorem dX13_readSum_22 : decode cX13_readSum 22 = .ok (.aload_n 0, 1) := by decide +kernel
theorem dX13_readSum_23 : decode cX13_readSum 23 = .ok (.getfield 149, 3) := by decide +kernel
theorem dX13_readSum_26 : decode cX13_readSum 26 = .ok (.iload_n 1, 1) := by decide +kernel
theorem dX13_readSum_27 : decode cX13_readSum 27 = .ok (.iconst 1, 1) := by decide +kernel
theorem dX13_readSum_28 : decode cX13_readSum 28 = .ok (.iadd, 1) := by decide +kernel
theorem dX13_readSum_29 : decode cX13_readSum 29 = .ok (.aload_n 0, 1) := by decide +kernel
theorem dX13_readSum_30 : decode cX13_readSum 30 = .ok (.getfield 275, 3) := by decide +kernel
theorem dX13_readSum_33 : decode cX13_readSum 33 = .ok (.iastore, 1) := by decide +kernel
theorem dX13_readSum_34 : decode cX13_readSum 34 = .ok (.return_, 1) := by decide +kernel
theorem dX13_readSum_17 : decode cX13_readSum 17 = .ok (.aload_n 0, 1) := by decide +kernel
theorem dX13_readSum_18 : decode cX13_readSum 18 = .ok (.iconst 0, 1) := by decide +kernel
theorem dX13_readSum_19 : decode cX13_readSum 19 = .ok (.invokevirtual 372, 3) := by decide +kernel
set_option maxHeartbeats 4000000 in
set_option maxRecDepth 100000 in
theorem k_X13_readSum (l : Launch) (D : va_G) (cy : Nat → ClassId) (ld ad : Nat → Nat) (am : Nat) (hD : mz_D ad am) (Fa : Nat → Int32) (Ga : Nat → Int64) (Ra : Nat → Nat → Int32) (Sa : Nat → Nat → Int64) (p1 : Int32) (gf : Int32) (gt : Int32) (gs : Int32) (gp : Int32) (gw : Int64) (gb : Int32) (gc : Int32) (hIF : mz_IF false Fa) (hIG : mz_IG Ga) (hIR : mz_IR [] true Ra) (hg_0 : Fa 14 = gf) (hg_1 : Fa 15 = gt) (hg_2 : Fa 16 = gs) (hg_3 : Fa 13 = gp) (hg_4 : Ga 17 = gw) (hg_5 : Fa 19 = gb) (hg_6 : Fa 23 = gc) (hp_0 : 0 ≤ p1.toInt) (hp_1 : p1.toInt ≤ 118) (hp_2 : 0 ≤ (-1) * gf.toInt + gt.toInt) (hp_3 : 0 ≤ gp.toInt + (-1) * gt.toInt) (hp_4 : (1 ≤ gs.toInt → 0 ≤ (-1) * gf.toInt + gt.toInt + (-1))) (hp_5 : (27 ≤ gw.toInt → 1 ≤ gs.toInt → gs.toInt ≤ 1 → 0 ≤ (-1) * gf.toInt + gt.toInt + (-2))) (hp_6 : 0 ≤ (-1) * gc.toInt + gf.toInt) : Met l yX13_readSum (wl yX13_readSum cX13_readSum 2 none) ({ frames := 10, cells := 0, slots := 0, locals := 630 }) (mz_p D cy ld ad am Fa Ga Ra Sa [.ref am, .int p1]) (mz_w D cy ad am (fun F G R S => mz_IF false F ∧ mz_IG G ∧ mz_IR [] true R ∧ (∀ k : Nat, k ∉ ([14, 15, 16, 18, 19, 23, 26, 29, 30] : List Nat) → F k = Fa k) ∧ (∀ k : Nat, k ∉ ([24, 25, 27, 28, 61] : List Nat) → R k = Ra k) ∧ (∀ k : Nat, k ∉ ([17] : List Nat) → G k = Ga k) ∧ 0 ≤ (-1) * (F 14).toInt + (F 15).toInt ∧ 0 ≤ gp.toInt + (-1) * (F 15).toInt ∧ (1 ≤ (F 16).toInt → 0 ≤ (-1) * (F 14).toInt + (F 15).toInt + (-1)) ∧ (27 ≤ (G 17).toInt → 1 ≤ (F 16).toInt → (F 16).toInt ≤ 1 → 0 ≤ (-1) * (F 14).toInt + (F 15).toInt + (-2)) ∧ 0 ≤ (-1) * gf.toInt + (F 14).toInt ∧ 0 ≤ (-1) * gc.toInt + (F 23).toInt ∧ 0 ≤ (-1) * (F 23).toInt + (F 14).toInt ∧ 0 ≤ (-1) * gb.toInt + (F 19).toInt ∧ R 61 = upd (upd (Ra 61) p1.toInt.toNat gc) (p1.toInt.toNat + 1) (F 23) ∧ ((F 19).toInt = 0 → WFC (R 24) (R 25) gc.toInt.toNat (F 23).toInt.toNat ∧ low gc.toInt.toNat (Ra 24) (R 24) ∧ low gc.toInt.toNat (Ra 25) (R 25)))) 0 0 (mz_W ad am) := by sorry
