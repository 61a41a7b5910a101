section
/-- a method's words: its own code, then the law's -/
abbrev wl (y : MethodName) (b : ByteArray) (n : Nat) (r : Option FieldType) : List Cond := Cond.code y b n r :: wsA
theorem wl_in {y : MethodName} {b : ByteArray} {n : Nat} {r : Option FieldType} {y' : MethodName} {b' : ByteArray} {n' : Nat} {r' : Option FieldType} (h : Cond.code y' b' n' r' ∈ wsA) : GoodIn (wl y b n r) (wl y' b' n' r') := fun w hw => by
  have hm : w ∈ wsA := (List.mem_cons.mp hw).elim (fun e => e ▸ h) id
  exact ⟨List.mem_cons_of_mem _ hm, good_of_word (List.all_eq_true.mp wl_good w hm)⟩
theorem wl_inL {y' : MethodName} {b' : ByteArray} {n' : Nat} {r' : Option FieldType} (h : Cond.code y' b' n' r' ∈ wsA) : GoodIn wsA (wl y' b' n' r') := fun w hw => by
  have hm : w ∈ wsA := (List.mem_cons.mp hw).elim (fun e => e ▸ h) id
  exact ⟨hm, good_of_word (List.all_eq_true.mp wl_good w hm)⟩
abbrev tys0 (cy : Nat → ClassId) : List (ClassId × FieldType) := [(cy 0, .int), (cy 1, .long), (cy 2, .boolean), (cy 3, .object RX9), (cy 4, .object RX2), (cy 5, .object RX7), (cy 6, .array .int)]
def k2_A2 (U : State) : Prop := (Cond.arrayOver (.array .int)).before #[] U = true
theorem k2_over {u U : State} (hvm : u.vm.Alike U.vm) (h : k2_A2 u) : k2_A2 U := arrayOver_alikeB hvm h
def kk_K (D : va_G) (cy : Nat → ClassId) (ld : Nat → Nat) (U : State) : Prop := va_K D vwCl (tys0 cy) U ∧ (va_AO RX9 U ∧ va_AO RX2 U ∧ va_AO RX7 U) ∧ k2_A2 U ∧ (va_Nw (.methodLinkNest RX2 94 yX12_within RX12) U ∧ va_Nw (.methodLinkNest RX1 40 yX12_within RX12) U ∧ va_Nw (.methodLinkNest RX3 33 yX12_within RX12) U ∧ va_Nw (.methodLinkNest RX6 145 yX12_within RX12) U) ∧ vk_R RX6 108 "lulls tires wakes bars" (ld 0) U ∧ vk_R RX6 110 "begin sing part dawn" (ld 1) U ∧ vk_R RX6 184 "skill strong key same hour wake theirs day mood" (ld 2) U ∧ vk_R RX6 186 "day hour turn done last wake cows" (ld 3) U ∧ vk_R RX6 120 "with" (ld 4) U ∧ vk_R RX6 126 "for" (ld 5) U ∧ vk_R RX6 143 "times" (ld 6) U ∧ vk_R RX6 131 "if" (ld 7) U ∧ vk_R RX6 173 "not" (ld 8) U ∧ vk_R RX6 168 "and" (ld 9) U ∧ vk_R RX6 160 "or" (ld 10) U
theorem kk_warm {D : va_G} {cy : Nat → ClassId} {ld : Nat → Nat} {s U : State} (hW : s.WarmedH U.vm) (h : kk_K D cy ld s) : kk_K D cy ld U :=
  ⟨va_K.moved hW.alike h.1, ⟨va_AO.moved hW.alike h.2.1.1, va_AO.moved hW.alike h.2.1.2.1, va_AO.moved hW.alike h.2.1.2.2⟩, k2_over hW.alike h.2.2.1, ⟨va_Nw.warmM hW h.2.2.2.1.1, va_Nw.warmM hW h.2.2.2.1.2.1, va_Nw.warmM hW h.2.2.2.1.2.2.1, va_Nw.warmM hW h.2.2.2.1.2.2.2⟩, vk_R.warm hW h.2.2.2.2.1, vk_R.warm hW h.2.2.2.2.2.1, vk_R.warm hW h.2.2.2.2.2.2.1, vk_R.warm hW h.2.2.2.2.2.2.2.1, vk_R.warm hW h.2.2.2.2.2.2.2.2.1, vk_R.warm hW h.2.2.2.2.2.2.2.2.2.1, vk_R.warm hW h.2.2.2.2.2.2.2.2.2.2.1, vk_R.warm hW h.2.2.2.2.2.2.2.2.2.2.2.1, vk_R.warm hW h.2.2.2.2.2.2.2.2.2.2.2.2.1, vk_R.warm hW h.2.2.2.2.2.2.2.2.2.2.2.2.2.1, vk_R.warm hW h.2.2.2.2.2.2.2.2.2.2.2.2.2.2⟩
theorem kk_call {D : va_G} {cy : Nat → ClassId} {ld : Nat → Nat} {U : State} (g : JFrame) (mk : MethodId) (a : Array Value) (h : kk_K D cy ld U) : kk_K D cy ld (U.calling g mk a) :=
  ⟨va_K.moved (u := U) (U := U.calling g mk a) (Vm.Alike.refl U.vm) h.1, ⟨va_AO.moved (u := U) (U := U.calling g mk a) (Vm.Alike.refl U.vm) h.2.1.1, va_AO.moved (u := U) (U := U.calling g mk a) (Vm.Alike.refl U.vm) h.2.1.2.1, va_AO.moved (u := U) (U := U.calling g mk a) (Vm.Alike.refl U.vm) h.2.1.2.2⟩, k2_over (u := U) (U := U.calling g mk a) (Vm.Alike.refl U.vm) h.2.2.1, ⟨va_Nw.same (u := U) (U := U.calling g mk a) rfl rfl h.2.2.2.1.1, va_Nw.same (u := U) (U := U.calling g mk a) rfl rfl h.2.2.2.1.2.1, va_Nw.same (u := U) (U := U.calling g mk a) rfl rfl h.2.2.2.1.2.2.1, va_Nw.same (u := U) (U := U.calling g mk a) rfl rfl h.2.2.2.1.2.2.2⟩, vk_R.same (u := U) (U := U.calling g mk a) rfl h.2.2.2.2.1, vk_R.same (u := U) (U := U.calling g mk a) rfl h.2.2.2.2.2.1, vk_R.same (u := U) (U := U.calling g mk a) rfl h.2.2.2.2.2.2.1, vk_R.same (u := U) (U := U.calling g mk a) rfl h.2.2.2.2.2.2.2.1, vk_R.same (u := U) (U := U.calling g mk a) rfl h.2.2.2.2.2.2.2.2.1, vk_R.same (u := U) (U := U.calling g mk a) rfl h.2.2.2.2.2.2.2.2.2.1, vk_R.same (u := U) (U := U.calling g mk a) rfl h.2.2.2.2.2.2.2.2.2.2.1, vk_R.same (u := U) (U := U.calling g mk a) rfl h.2.2.2.2.2.2.2.2.2.2.2.1, vk_R.same (u := U) (U := U.calling g mk a) rfl h.2.2.2.2.2.2.2.2.2.2.2.2.1, vk_R.same (u := U) (U := U.calling g mk a) rfl h.2.2.2.2.2.2.2.2.2.2.2.2.2.1, vk_R.same (u := U) (U := U.calling g mk a) rfl h.2.2.2.2.2.2.2.2.2.2.2.2.2.2⟩
def pp (D : va_G) (cy : Nat → ClassId) (ld : Nat → Nat) (av : List Value) (sz : Nat) (ws : va_W) : Array Value → State → Prop := va_Pc av (fun U => U.heap.size = sz ∧ va_P D vwCl ws U.heap ∧ kk_K D cy ld U ∧ va_D (fun _ => True) ws)
def qi {X : Type} (D : va_G) (post : Int32 → Prop) (w1 : X → va_W) (A : Nat → Prop) : Array Value → State → Outcome → State → Prop := va_Qi (S := X) (fun r _ => post r) (fun x t => va_P D vwCl (w1 x) t.heap ∧ va_D A (w1 x)) A
def qv {X : Type} (D : va_G) (w1 : X → va_W) (A : Nat → Prop) : Array Value → State → Outcome → State → Prop := va_Qv (S := X) (fun _ => True) (fun x t => va_P D vwCl (w1 x) t.heap ∧ va_D A (w1 x)) A
theorem pp_blind {D : va_G} {cy : Nat → ClassId} {ld : Nat → Nat} {av : List Value} {sz : Nat} {ws : va_W} : FrameBlind (pp D cy ld av sz ws) := fun a U g mk q => by
  obtain ⟨q0, q1, qP, qK, qD⟩ := q
  exact ⟨q0, q1, qP, kk_call g mk a qK, qD⟩
theorem fx_fm {α β : Type} {is : List α} {f : α → Option β} {w : List β} (h : is.map f = w.map some) : is.filterMap f = w := by sorry
section FXA
variable {p : Program} {l : Launch} {e : Env} {R : Room} {s : State} {m : MethodId} {args : Array Value} {below : List Frame} {meth : Method} {c : Code} {H : Heap} {locs : List Loc} {cells slots : Nat} {Q : State → Prop}
variable {pc : Nat} {ls : Array Slot} {rest st : List Value} {A : Nat → Prop} {H0 : Heap} {mc ms nL maxL n index : Nat} {D : va_G} {cy : Nat → ClassId} {ld : Nat → Nat} {ws wc wr : va_W} {own C : String} {Ts wsy : List Cond} {cc bytes : ByteArray} {y : MethodName} {ret : Option FieldType} {rm : Room} {As : List Value} {b : Nat}
theorem fx_Vi {X : Type} {post : Int32 → Prop} {w1 : X → va_W} (S : CallFix p m c cc nL s args Ts own) (hK : kk_K D cy ld s) (hP : va_P D vwCl ws H) (hD : va_D A ws) (hS : va_S A H0 H locs) (hA : ∀ q, H0.size ≤ q → A q)
    (hM : Met l y wsy rm (pp D cy ld (.ref b :: As) H.size wc) (qi D post w1 (va_A wc H.size)) mc ms (va_A wc H.size))
    (cw : CallW R s args own C index y bytes maxL ret wsy rm mc ms n)
    (isC isR : List Nat) (hC : isC.map (fun i => ws[i]?) = wc.map some) (hR : isR.map (fun i => ws[i]?) = wr.map some) (hnC : va_nd isC = true) (hnR : va_nd isR = true) (hdis : ∀ i ∈ isR, i ∉ isC)
    (ci q0 : Nat) {fs : List Value} {T : u_T} {N : Nat} (hb0 : wc[q0]? = some (b, .inr (ci, fs))) (hcl : vwCl[ci]? = some (C, T, N))
    (hn : As.length = n) (hsize : ls.size = nL) (hst : st = As.reverse ++ .ref b :: rest) (hW : (rest.map fun v => v.category).sum ≤ 8) (hdg : decode cc pc = .ok (.invokevirtual index, 3)) (hf : cells + mc ≤ R.cells ∧ slots + ms ≤ R.slots)
    (kk : ∀ (r : Int32) (x : X) (H1 : Heap) (locs1 : List Loc), post r → va_P D vwCl (wr ++ w1 x) H1 → va_D A (wr ++ w1 x) → va_S A H0 H1 locs1 → W p l e R s m args below meth c H1 locs1 (cells + mc) (slots + ms) Q (F0 m (pc + 3) ls (.int r :: rest))) :
    W p l e R s m args below meth c H locs cells slots Q (F0 m pc ls st) := by
  have hDc : va_D A wc := hD.sub isC hnC hC
  have hPc : va_P D vwCl wc H := hP.sub isC (fx_fm hC)
  subst hst
  have hFc := va_free (wc := wc) hD hS hA isC hC
  refine va_calli (va_runV (As := As) (rest := rest) S hM cw ⟨pp_blind, va_recv hK.1 hPc hcl hb0, fun U hU hW2 => ⟨rfl, by rw [hU], by rw [hU]; exact hPc, kk_warm hW2 hK, hDc.weaken (fun _ _ _ _ => trivial)⟩⟩ rfl hn hsize rfl (lv_room hW) hdg hf) hS (fun q _ h => hFc q h) hFc (fun r u t H1 locs1 ht hvm hw hB hz1 hk1 hS1 => ?_)
  obtain ⟨hP1, hD1⟩ := hB
  rw [ht] at hP1
  obtain ⟨hP2, hD2⟩ := va_join (wr := wr) (w1 := w1 u) hP hD isC isR hC hR hnR hdis hk1 hFc hP1 hD1
  exact kk r u H1 locs1 hw hP2 hD2 hS1
theorem fx_Vv {X : Type} {w1 : X → va_W} (S : CallFix p m c cc nL s args Ts own) (hK : kk_K D cy ld s) (hP : va_P D vwCl ws H) (hD : va_D A ws) (hS : va_S A H0 H locs) (hA : ∀ q, H0.size ≤ q → A q)
    (hM : Met l y wsy rm (pp D cy ld (.ref b :: As) H.size wc) (qv D w1 (va_A wc H.size)) mc ms (va_A wc H.size))
    (cw : CallW R s args own C index y bytes maxL ret wsy rm mc ms n)
    (isC isR : List Nat) (hC : isC.map (fun i => ws[i]?) = wc.map some) (hR : isR.map (fun i => ws[i]?) = wr.map some) (hnC : va_nd isC = true) (hnR : va_nd isR = true) (hdis : ∀ i ∈ isR, i ∉ isC)
    (ci q0 : Nat) {fs : List Value} {T : u_T} {N : Nat} (hb0 : wc[q0]? = some (b, .inr (ci, fs))) (hcl : vwCl[ci]? = some (C, T, N))
    (hn : As.length = n) (hsize : ls.size = nL) (hst : st = As.reverse ++ .ref b :: rest) (hW : (rest.map fun v => v.category).sum ≤ 8) (hdg : decode cc pc = .ok (.invokevirtual index, 3)) (hf : cells + mc ≤ R.cells ∧ slots + ms ≤ R.slots)
    (kk : ∀ (x : X) (H1 : Heap) (locs1 : List Loc), va_P D vwCl (wr ++ w1 x) H1 → va_D A (wr ++ w1 x) → va_S A H0 H1 locs1 → W p l e R s m args below meth c H1 locs1 (cells + mc) (slots + ms) Q (F0 m (pc + 3) ls rest)) :
    W p l e R s m args below meth c H locs cells slots Q (F0 m pc ls st) := by
  have hDc : va_D A wc := hD.sub isC hnC hC
  have hPc : va_P D vwCl wc H := hP.sub isC (fx_fm hC)
  subst hst
  have hFc := va_free (wc := wc) hD hS hA isC hC
  refine va_callv (va_runV (As := As) (rest := rest) S hM cw ⟨pp_blind, va_recv hK.1 hPc hcl hb0, fun U hU hW2 => ⟨rfl, by rw [hU], by rw [hU]; exact hPc, kk_warm hW2 hK, hDc.weaken (fun _ _ _ _ => trivial)⟩⟩ rfl hn hsize rfl (lv_room hW) hdg hf) hS (fun q _ h => hFc q h) hFc (fun u t H1 locs1 ht hvm hw hB hz1 hk1 hS1 => ?_)
  obtain ⟨hP1, hD1⟩ := hB
  rw [ht] at hP1
  obtain ⟨hP2, hD2⟩ := va_join (wr := wr) (w1 := w1 u) hP hD isC isR hC hR hnR hdis hk1 hFc hP1 hD1
  exact kk u H1 locs1 hP2 hD2 hS1
theorem fx_Iv {X : Type} {w1 : X → va_W} (S : CallFix p m c cc nL s args Ts own) (hK : kk_K D cy ld s) (hP : va_P D vwCl ws H) (hD : va_D A ws) (hS : va_S A H0 H locs) (hA : ∀ q, H0.size ≤ q → A q)
    (hM : Met l y wsy rm (pp D cy ld (.ref b :: As) H.size wc) (qv D w1 (va_A wc H.size)) mc ms (va_A wc H.size))
    (cw : CallB R s args own index y bytes maxL none wsy rm mc ms n ∧ y.name = "<init>" ∧ (Cond.instanceMethod y).before args s = true)
    (isC isR : List Nat) (hC : isC.map (fun i => ws[i]?) = wc.map some) (hR : isR.map (fun i => ws[i]?) = wr.map some) (hnC : va_nd isC = true) (hnR : va_nd isR = true) (hdis : ∀ i ∈ isR, i ∉ isC)
    (hn : As.length = n) (hsize : ls.size = nL) (hst : st = As.reverse ++ .ref b :: rest) (hW : (rest.map fun v => v.category).sum ≤ 8) (hdg : decode cc pc = .ok (.invokespecial index, 3)) (hf : cells + mc ≤ R.cells ∧ slots + ms ≤ R.slots)
    (kk : ∀ (x : X) (H1 : Heap) (locs1 : List Loc), va_P D vwCl (wr ++ w1 x) H1 → va_D A (wr ++ w1 x) → va_S A H0 H1 locs1 → W p l e R s m args below meth c H1 locs1 (cells + mc) (slots + ms) Q (F0 m (pc + 3) ls rest)) :
    W p l e R s m args below meth c H locs cells slots Q (F0 m pc ls st) := by
  have hDc : va_D A wc := hD.sub isC hnC hC
  have hPc : va_P D vwCl wc H := hP.sub isC (fx_fm hC)
  subst hst
  have hFc := va_free (wc := wc) hD hS hA isC hC
  refine va_callv (va_runI (As := As) (rest := rest) S hM cw ⟨pp_blind, fun U hU hW2 => ⟨rfl, by rw [hU], by rw [hU]; exact hPc, kk_warm hW2 hK, hDc.weaken (fun _ _ _ _ => trivial)⟩⟩ rfl hn hsize rfl (lv_room hW) hdg hf) hS (fun q _ h => hFc q h) hFc (fun u t H1 locs1 ht hvm hw hB hz1 hk1 hS1 => ?_)
  obtain ⟨hP1, hD1⟩ := hB
  rw [ht] at hP1
  obtain ⟨hP2, hD2⟩ := va_join (wr := wr) (w1 := w1 u) hP hD isC isR hC hR hnR hdis hk1 hFc hP1 hD1
  exact kk u H1 locs1 hP2 hD2 hS1
theorem fx_Si {X : Type} {post : Int32 → Prop} {w1 : X → va_W} (S : CallFix p m c cc nL s args Ts own) (hK : kk_K D cy ld s) (hP : va_P D vwCl ws H) (hD : va_D A ws) (hS : va_S A H0 H locs) (hA : ∀ q, H0.size ≤ q → A q)
    (hM : Met l y wsy rm (pp D cy ld As H.size wc) (qi D post w1 (va_A wc H.size)) mc ms (va_A wc H.size))
    (cw : CallB R s args own index y bytes maxL ret wsy rm mc ms n ∧ (Cond.static y).before args s = true)
    (isC isR : List Nat) (hC : isC.map (fun i => ws[i]?) = wc.map some) (hR : isR.map (fun i => ws[i]?) = wr.map some) (hnC : va_nd isC = true) (hnR : va_nd isR = true) (hdis : ∀ i ∈ isR, i ∉ isC)
    (hn : As.length = n) (hsize : ls.size = nL) (hst : st = As.reverse ++ rest) (hW : (rest.map fun v => v.category).sum ≤ 8) (hdg : decode cc pc = .ok (.invokestatic index, 3)) (hf : cells + mc ≤ R.cells ∧ slots + ms ≤ R.slots)
    (kk : ∀ (r : Int32) (x : X) (H1 : Heap) (locs1 : List Loc), post r → va_P D vwCl (wr ++ w1 x) H1 → va_D A (wr ++ w1 x) → va_S A H0 H1 locs1 → W p l e R s m args below meth c H1 locs1 (cells + mc) (slots + ms) Q (F0 m (pc + 3) ls (.int r :: rest))) :
    W p l e R s m args below meth c H locs cells slots Q (F0 m pc ls st) := by
  have hDc : va_D A wc := hD.sub isC hnC hC
  have hPc : va_P D vwCl wc H := hP.sub isC (fx_fm hC)
  subst hst
  have hFc := va_free (wc := wc) hD hS hA isC hC
  refine va_calli (va_runS (As := As) (rest := rest) S hM cw ⟨pp_blind, fun U hU hW2 => ⟨rfl, by rw [hU], by rw [hU]; exact hPc, kk_warm hW2 hK, hDc.weaken (fun _ _ _ _ => trivial)⟩⟩ rfl hn hsize rfl (lv_room hW) hdg hf) hS (fun q _ h => hFc q h) hFc (fun r u t H1 locs1 ht hvm hw hB hz1 hk1 hS1 => ?_)
  obtain ⟨hP1, hD1⟩ := hB
  rw [ht] at hP1
  obtain ⟨hP2, hD2⟩ := va_join (wr := wr) (w1 := w1 u) hP hD isC isR hC hR hnR hdis hk1 hFc hP1 hD1
  exact kk r u H1 locs1 hw hP2 hD2 hS1
theorem fx_SNi {X : Type} {post : Int32 → Prop} {w1 : X → va_W} {host : String} (S : CallFix p m c cc nL s args Ts own) (hK : kk_K D cy ld s) (hP : va_P D vwCl ws H) (hD : va_D A ws) (hS : va_S A H0 H locs) (hA : ∀ q, H0.size ≤ q → A q)
    (hM : Met l y wsy rm (pp D cy ld As H.size wc) (qi D post w1 (va_A wc H.size)) mc ms (va_A wc H.size))
    (cw : va_CN R s args own index y host bytes maxL ret wsy rm mc ms n ∧ (Cond.static y).before args s = true ∧ True)
    (isC isR : List Nat) (hC : isC.map (fun i => ws[i]?) = wc.map some) (hR : isR.map (fun i => ws[i]?) = wr.map some) (hnC : va_nd isC = true) (hnR : va_nd isR = true) (hdis : ∀ i ∈ isR, i ∉ isC)
    (hn : As.length = n) (hsize : ls.size = nL) (hst : st = As.reverse ++ rest) (hW : (rest.map fun v => v.category).sum ≤ 8) (hdg : decode cc pc = .ok (.invokestatic index, 3)) (hf : cells + mc ≤ R.cells ∧ slots + ms ≤ R.slots)
    (kk : ∀ (r : Int32) (x : X) (H1 : Heap) (locs1 : List Loc), post r → va_P D vwCl (wr ++ w1 x) H1 → va_D A (wr ++ w1 x) → va_S A H0 H1 locs1 → W p l e R s m args below meth c H1 locs1 (cells + mc) (slots + ms) Q (F0 m (pc + 3) ls (.int r :: rest))) :
    W p l e R s m args below meth c H locs cells slots Q (F0 m pc ls st) := by
  have hDc : va_D A wc := hD.sub isC hnC hC
  have hPc : va_P D vwCl wc H := hP.sub isC (fx_fm hC)
  subst hst
  have hFc := va_free (wc := wc) hD hS hA isC hC
  refine va_calli (va_runSN (As := As) (rest := rest) S hM cw ⟨pp_blind, fun U hU hW2 => ⟨rfl, by rw [hU], by rw [hU]; exact hPc, kk_warm hW2 hK, hDc.weaken (fun _ _ _ _ => trivial)⟩⟩ rfl hn hsize rfl (lv_room hW) hdg hf) hS (fun q _ h => hFc q h) hFc (fun r u t H1 locs1 ht hvm hw hB hz1 hk1 hS1 => ?_)
  obtain ⟨hP1, hD1⟩ := hB
  rw [ht] at hP1
  obtain ⟨hP2, hD2⟩ := va_join (wr := wr) (w1 := w1 u) hP hD isC isR hC hR hnR hdis hk1 hFc hP1 hD1
  exact kk r u H1 locs1 hw hP2 hD2 hS1
/-- new T[n][k], of which nothing is told but its address -/
theorem fx_grid (hx : p.tables.exec = Jvm.exec) (hb : c.code = cc) {ty : FieldType} (hown : s.vm.findClass own = some m.cls) (hclink : (Cond.classLink own index ("[" ++ (FieldType.array ty).toString)).before args s = true) (hover : (Cond.arrayOver (.array ty)).before args s = true) (harr : (Cond.arrayClass ty).before args s = true) (hP : va_P D vwCl ws H) (hS : va_S A H0 H locs)
    {k j : Int32} {N' K' : Nat} (hn : ¬ k < 0) (hk : ¬ j < 0) (hN : k.toNatClampNeg = N') (hM : j.toNatClampNeg = K') (hb1 : N' * 4 ≤ 536870912) (hb2 : K' * componentBytes ty ≤ 536870912) (hb3 : K' ≤ 536870912) (hdf : fits ty (defaultValue ty) = true) (hdd : (defaultValue ty).isDefault = true) (hcells : cells + (1 + N') ≤ R.cells) (hslots : slots + (N' + N' * K') ≤ R.slots) (hdg : decode cc pc = .ok (.multianewarray index 2, 4))
    (kk : ∀ (q : Nat) (H1 : Heap), va_P D vwCl ws H1 → va_S A H0 H1 locs → W p l e R s m args below meth c H1 locs (cells + 1 + N') (slots + N' + N' * K') Q (F0 m (pc + 4) ls (.ref q :: rest))) : W p l e R s m args below meth c H locs cells slots Q (F0 m pc ls (.int j :: .int k :: rest)) := by
  subst hN
  subst hM
  intro T hT Xs
  obtain ⟨vm₁, cA, comp, -, -, -, -, -, X', step⟩ := Xs.multianewarray2F hx hown hclink hover harr (g := F0 m pc ls (.int j :: .int k :: rest)) rfl (by rw [hb]; exact hdg) rfl hn hk hb1 hb2 hb3 hdf hdd hcells hslots
  have hTh : (T.setVm vm₁).heap = H := hT
  have hold : ∀ x : Nat, x < H.size → (Jvm.Free.Multi.fill (T.setVm vm₁) cA comp k.toNatClampNeg j.toNatClampNeg (defaultValue ty) k.toNatClampNeg).heap[x]? = H[x]? := fun x hx => by
    have := Jvm.Free.Multi.fill_old (T.setVm vm₁) cA comp k.toNatClampNeg j.toNatClampNeg (defaultValue ty) (a := x) (by rw [hTh]; exact hx) k.toNatClampNeg
    rw [hTh] at this
    exact this
  have hsz : H.size ≤ (Jvm.Free.Multi.fill (T.setVm vm₁) cA comp k.toNatClampNeg j.toNatClampNeg (defaultValue ty) k.toNatClampNeg).heap.size := by
    have h := (Jvm.Free.Multi.fill_facts (T.setVm vm₁) cA comp k.toNatClampNeg j.toNatClampNeg (defaultValue ty) k.toNatClampNeg).1
    rw [hTh] at h
    omega
  have hP1 := hP.kept (fun k9 x hx => hold x.1 ((hP k9 x hx).lt))
  have hS1 : va_S A H0 (Jvm.Free.Multi.fill (T.setVm vm₁) cA comp k.toNatClampNeg j.toNatClampNeg (defaultValue ty) k.toNatClampNeg).heap locs := ⟨Nat.le_trans hS.1 hsz, fun q hq h => by rw [hold q (Nat.lt_of_lt_of_le hq hS.1)]; exact hS.2.1 q hq h, hS.2.2⟩
  obtain ⟨t, a1, b1⟩ := kk T.heap.size _ hP1 hS1 _ rfl X'
  exact ⟨t, step t a1, b1⟩
theorem fx_iret {X : Type} {post : Int32 → Prop} {w1 : X → va_W} {v : Int32} {ty : FieldType} (hx : p.tables.exec = Jvm.exec) (hb : c.code = cc) (hr : meth.sig.returnType = some ty) (hty : narrow ty (.int v) = .int v) (hlocks : meth.locks = false) (hpost : post v) (x : X) (hP : va_P D vwCl ws H) (hD : va_D A ws) (hS : va_S A s.heap H locs) (is : List Nat) (hn : va_nd is = true) (hs : is.map (fun i => ws[i]?) = (w1 x).map some) (hdg : decode cc pc = .ok (.ireturn, 1)) :
    W p l e R s m args below meth c H locs cells slots (MQ below (qi D post w1 A) args s cells slots A) (F0 m pc ls [.int v]) :=
  W.zret hx hb hr hty (fun t ht _ => ⟨⟨v, x, rfl, hpost, by rw [ht]; exact hP.sub is (fx_fm hs), hD.sub is hn hs⟩, hS.F ht⟩) hS.2.2 hdg hlocks
theorem fx_vret {X : Type} {w1 : X → va_W} (hx : p.tables.exec = Jvm.exec) (hb : c.code = cc) (hr : meth.sig.returnType = none) (hlocks : meth.locks = false) (x : X) (hP : va_P D vwCl ws H) (hD : va_D A ws) (hS : va_S A s.heap H locs) (is : List Nat) (hn : va_nd is = true) (hs : is.map (fun i => ws[i]?) = (w1 x).map some) (hdg : decode cc pc = .ok (.return_, 1)) :
    W p l e R s m args below meth c H locs cells slots (MQ below (qv D w1 A) args s cells slots A) (F0 m pc ls []) :=
  W.vret hx hb hr (fun t ht _ => ⟨⟨x, rfl, trivial, by rw [ht]; exact hP.sub is (fx_fm hs), hD.sub is hn hs⟩, hS.F ht⟩) hS.2.2 hdg hlocks
theorem fx_ti {x v : Int32} (h : x = v) (k : W p l e R s m args below meth c H locs cells slots Q (F0 m pc ls (.int v :: rest))) : W p l e R s m args below meth c H locs cells slots Q (F0 m pc ls (.int x :: rest)) := h ▸ k
theorem fx_tl {x v : Int64} (h : x = v) (k : W p l e R s m args below meth c H locs cells slots Q (F0 m pc ls (.long v :: rest))) : W p l e R s m args below meth c H locs cells slots Q (F0 m pc ls (.long x :: rest)) := h ▸ k
theorem fx_in {i : Int32} {n : Nat} (h : decide (¬ (i < 0 ∨ n ≤ i.toNatClampNeg)) = true) : vp_in i n := show ¬ (i < 0 ∨ n ≤ i.toNatClampNeg) from of_decide_eq_true h
theorem fx_top {x v : Value} (h : x = v) (k : W p l e R s m args below meth c H locs cells slots Q (F0 m pc ls (v :: rest))) : W p l e R s m args below meth c H locs cells slots Q (F0 m pc ls (x :: rest)) := h ▸ k
theorem fx_same {t c1 c2 : Nat} {ty : FieldType} {k1 k2 : ClassId} {tys : List (ClassId × FieldType)} {cl : List vw_C} (hK : va_K D cl tys s) (h1 : tys[c1]? = some (k1, ty)) (h2 : tys[c2]? = some (k2, ty)) (hra : (∀ k, va_RA s k ty → s.vm.findClass ("[" ++ ty.toString) = some k)) : k1 = k2 :=
  Option.some.inj ((hra _ (hK.2 c1 _ h1).2).symm.trans (hra _ (hK.2 c2 _ h2).2))
/-- a new array of a kind that tys0 has at its place t0 -/
theorem fx_newa (hx : p.tables.exec = Jvm.exec) (hb : c.code = cc) {atype : ArrayType} {ty : FieldType} (harr : (Cond.arrayClass ty).before args s = true) (hty : newarray.typeOf atype = ty) (hK : kk_K D cy ld s) (hP : va_P D vwCl ws H) (hD : va_D A ws) (hS : va_S A H0 H locs) (hA : ∀ q, H0.size ≤ q → A q) (t0 : Nat) {k0 : ClassId} (ht0 : (tys0 cy)[t0]? = some (k0, ty)) (hra : ∀ k, va_RA s k ty → s.vm.findClass ("[" ++ ty.toString) = some k)
    {k : Int32} {N' : Nat} {a0 : vp_A} (ha : ∀ cA : ClassId, vp_cell cA a0 = arrV cA N' (fun _ => defaultValue ty)) (hn : ¬ k < 0) (hN : k.toNatClampNeg = N') (hbytes : N' * componentBytes ty ≤ 536870912) (hcells : cells + 1 ≤ R.cells) (hslots : slots + N' ≤ R.slots) (hdg : decode cc pc = .ok (.newarray atype, 2))
    (kk : ∀ (q : Nat) (H1 : Heap), va_P D vwCl (ws ++ [(q, .inl (k0, a0))]) H1 → va_D A (ws ++ [(q, .inl (k0, a0))]) → va_S A H0 H1 locs → W p l e R s m args below meth c H1 locs (cells + 1) (slots + N') Q (F0 m (pc + 2) ls (.ref q :: rest))) : W p l e R s m args below meth c H locs cells slots Q (F0 m pc ls (.int k :: rest)) := by
  subst hty
  refine va_newa hx hb harr rfl hK.1 hP hD hS hA ha hn hN hbytes hcells hslots hdg (fun q cA H1 hK2 hP2 hD2 hS2 => ?_)
  have hi : (tys0 cy ++ [(cA, newarray.typeOf atype)])[(tys0 cy).length]? = some (cA, newarray.typeOf atype) := by simp
  have h0 : (tys0 cy ++ [(cA, newarray.typeOf atype)])[t0]? = some (k0, newarray.typeOf atype) := by
    rw [List.getElem?_append_left (List.getElem?_eq_some_iff.mp ht0).1]; exact ht0
  have ek : cA = k0 := fx_same (t := 0) hK2 hi h0 hra
  subst ek
  exact kk q H1 hP2 hD2 hS2
theorem fx_newq (hx : p.tables.exec = Jvm.exec) (hb : c.code = cc) {C : String} (hown : s.vm.findClass own = some m.cls) (hclink : (Cond.classLink own index C).before args s = true) (hover : va_AO C s) (hK : kk_K D cy ld s) (hP : va_P D vwCl ws H) (hD : va_D A ws) (hS : va_S A H0 H locs) (hA : ∀ q, H0.size ≤ q → A q) (t0 : Nat) {k0 : ClassId} (ht0 : (tys0 cy)[t0]? = some (k0, .object C))
    {k : Int32} {N' : Nat} (hn : ¬ k < 0) (hN : k.toNatClampNeg = N') (hbytes : N' * 4 ≤ 536870912) (hcells : cells + 1 ≤ R.cells) (hslots : slots + N' ≤ R.slots) (hdg : decode cc pc = .ok (.anewarray index, 3))
    (kk : ∀ (q : Nat) (H1 : Heap), va_P D vwCl (ws ++ [(q, .inl (k0, N', .inr (.inr (.inr (.inr (fun _ => none))))))]) H1 → va_D A (ws ++ [(q, .inl (k0, N', .inr (.inr (.inr (.inr (fun _ => none))))))]) → va_S A H0 H1 locs → W p l e R s m args below meth c H1 locs (cells + 1) (slots + N') Q (F0 m (pc + 3) ls (.ref q :: rest))) : W p l e R s m args below meth c H locs cells slots Q (F0 m pc ls (.int k :: rest)) := by
  refine va_newq hx hb hown hclink hover hK.1 hP hD hS hA hn hN hbytes hcells hslots hdg (fun q cA H1 hK2 hP2 hD2 hS2 => ?_)
  have hi : (tys0 cy ++ [(cA, .object C)])[(tys0 cy).length]? = some (cA, .object C) := by simp
  have h0 : (tys0 cy ++ [(cA, .object C)])[t0]? = some (k0, .object C) := by
    rw [List.getElem?_append_left (List.getElem?_eq_some_iff.mp ht0).1]; exact ht0
  have ek : cA = k0 := fx_same (t := 0) hK2 hi h0 (fun k h => by obtain ⟨_, _, _, _, _, h⟩ := h; exact h)
  subst ek
  exact kk q H1 hP2 hD2 hS2
end FXA
section FXB
variable {l : Launch} {D : va_G} {cy : Nat → ClassId} {ld : Nat → Nat} {y : MethodName} {cc : ByteArray} {maxL mc ms sz : Nat} {ret : Option FieldType} {rm : Room} {av : List Value} {wc : va_W} {QC : (Nat → Prop) → Array Value → State → Outcome → State → Prop}
/-- a contract out of the walk of its body -/
theorem fx_met (QC : (Nat → Prop) → Array Value → State → Outcome → State → Prop) (hy : plainName y.cls = true) (hlen : (lg_sl av).length ≤ maxL)
    (body : ∀ (p : Program) (e : Env) (s : State) (m : MethodId) (args : Array Value) (below : List Frame) (meth : Method) (c : Code), p.tables.exec = Jvm.exec → c.code = cc → meth.sig.returnType = ret → c.maxLocals = maxL → (∀ w ∈ wl y cc maxL ret, w.before args s = true) → (∀ w ∈ wsA, w.before args s = true) → s.vm.findClass y.cls = some m.cls → meth.locks = false → meth.name = y.name → kk_K D cy ld s → va_P D vwCl wc s.heap → ∀ A : Nat → Prop, va_D A wc → (∀ q, s.heap.size ≤ q → A q) → va_S A s.heap s.heap [] → ∀ ls : Array Slot, lv_has ls maxL (lv_args 0 av) →
      W p l e rm s m args below meth c s.heap [] 0 0 (MQ below (QC A) args s mc ms A) (F0 m 0 ls [])) : Met l y (wl y cc maxL ret) rm (pp D cy ld av sz wc) (QC (va_A wc sz)) mc ms (va_A wc sz) := by
  refine Met.ofW (cc := cc) (maxL := maxL) (ret := ret) hy rfl ?_
  intro p e s m args below meth c s₁ B hml hv
  obtain ⟨rfl, hsz, hP, hK, hD0⟩ := hv
  subst hsz
  have hts := atoms_spec (ws := wl y cc maxL ret) B.pre
  have hl := lv_entry av (n := maxL) hlen
  rw [lg_entry_eq]
  exact body p e s m _ below meth c B.exec B.bytes B.returns hml hts (fun w hw => hts w (List.mem_cons_of_mem _ hw)) (findClass_of_methodNamed B.named) B.notSynchronized (name_of_methodNamed B.named B.method).1 hK hP _ (hD0.self (sz := s.heap.size)) (fun q h => Or.inr h) va_S.rf _ hl
end FXB
theorem fa_lt (a b : Int32) : a < b ↔ a.toInt < b.toInt := Int32.lt_iff_toInt_lt
theorem fa_le (a b : Int32) : a ≤ b ↔ a.toInt ≤ b.toInt := Int32.le_iff_toInt_le
theorem fa_eq (a b : Int32) : a = b ↔ a.toInt = b.toInt := Int32.toInt_inj.symm
theorem fl_lt {a b : Int64} {x y : Int} (hx : a.toInt = x) (hy : b.toInt = y) : a < b ↔ x < y := by rw [← hx, ← hy]; exact Int64.lt_iff_toInt_lt
theorem fl_le {a b : Int64} {x y : Int} (hx : a.toInt = x) (hy : b.toInt = y) : a ≤ b ↔ x ≤ y := by rw [← hx, ← hy]; exact Int64.le_iff_toInt_le
theorem fi_lt {a b : Int32} {x y : Int} (hx : a.toInt = x) (hy : b.toInt = y) : a < b ↔ x < y := by rw [← hx, ← hy]; exact fa_lt a b
theorem fi_le {a b : Int32} {x y : Int} (hx : a.toInt = x) (hy : b.toInt = y) : a ≤ b ↔ x ≤ y := by rw [← hx, ← hy]; exact fa_le a b
theorem fi_eq {a b : Int32} {x y : Int} (hx : a.toInt = x) (hy : b.toInt = y) : a = b ↔ x = y := by rw [← hx, ← hy]; exact fa_eq a b
theorem fl_w (x : Int32) : x.toInt64.toInt = x.toInt := Int32.toInt_toInt64 x
theorem fx_cases2 (x : Int32) : x = 0 ∨ x = 1 ∨ x.toInt < 0 ∨ 1 < x.toInt := by sorry
theorem fx_cases3 (x : Int32) : x = 0 ∨ x = 1 ∨ x = 2 ∨ x.toInt < 0 ∨ 2 < x.toInt := by sorry
theorem fx_cases4 (x : Int32) : x = 0 ∨ x = 1 ∨ x = 2 ∨ x = 3 ∨ x.toInt < 0 ∨ 3 < x.toInt := by sorry
theorem fx_cases6 (x : Int32) : x = 0 ∨ x = 1 ∨ x = 2 ∨ x = 3 ∨ x = 4 ∨ x = 5 ∨ x.toInt < 0 ∨ 5 < x.toInt := by sorry
theorem fx_cases19 (x : Int32) : x = 0 ∨ x = 1 ∨ x = 2 ∨ x = 3 ∨ x = 4 ∨ x = 5 ∨ x = 6 ∨ x = 7 ∨ x = 8 ∨ x = 9 ∨ x = 10 ∨ x = 11 ∨ x = 12 ∨ x = 13 ∨ x = 14 ∨ x = 15 ∨ x = 16 ∨ x = 17 ∨ x = 18 ∨ x.toInt < 0 ∨ 18 < x.toInt := by sorry
theorem fl_eq {a b : Int64} {x y : Int} (hx : a.toInt = x) (hy : b.toInt = y) : a = b ↔ x = y := by rw [← hx, ← hy]; exact Int64.toInt_inj.symm

def tk_F (k : Nat) : List (Nat × Int × Int × Int) := match k with
  | 1 => [(8, 22, 10, 5), (6, 20, 8, 0), (0, 0, 8, 0), (8, 20, 3, 0), (6, 9, 0, 0), (6, 22, 10, 0), (0, 0, 1000002, 0)]
  | 2 => [(0, 0, 16, 0), (8, 20, 3, 0), (6, 9, 0, 0), (6, 25, 16, 1), (6, 20, 16, 0), (0, 0, 15, 0), (6, 10, 0, 2), (6, 25, 16, 3), (6, 20, 16, 0), (0, 0, 15, 0), (0, 0, 16, 0)]
  | 3 => [(0, 0, 8, 0), (1, 20, 8, 0), (1, 21, 8, 0), (11, 70, 32, 8), (0, 0, 10, 0), (11, 80, 33, 10), (11, 90, 34, 10), (0, 0, 10, 0), (11, 100, 35, 10), (11, 110, 36, 10), (11, 120, 37, 10), (0, 0, 8, 0), (1, 24, 40, 0), (0, 0, 6, 0), (1, 28, 6, 0), (0, (-2147483648), 2147483647, 0), (0, (-2147483648), 2147483647, 0), (0, (-2147483648), 2147483647, 0), (0, (-2147483648), 2147483647, 0), (9, 40, 10, 0)]
  | 4 => [(8, 20, 3, 0), (6, 22, 4, 0), (6, 20, 4, 0), (0, 0, 4, 0), (0, (-2147483648), 2147483647, 0)]
  | 5 => [(0, (-2147483648), 2147483647, 0), (8, 20, 3, 0), (6, 2, 0, 0), (6, 12, 0, 0), (0, (-2147483648), 2147483647, 0), (0, (-2147483648), 2147483647, 0)]
  | 6 => [(8, 20, 3, 0), (6, 9, 0, 0), (6, 26, 5, 0), (0, (-2147483648), 2147483647, 0), (0, (-2147483648), 2147483647, 0), (8, 21, 10, 4), (6, 30, 8, 0), (6, 20, 8, 0), (6, 20, 8, 0), (0, (-2147483648), 2147483647, 0), (0, (-2147483648), 2147483647, 0)]
  | 7 => [(6, 8, 512, 12), (10, 26, 20, 6409), (0, 0, 400, 0), (0, 0, 1, 0), (0, 0, 400, 0), (0, 0, 400, 0), (0, (-2147483648), 2147483647, 0), (0, (-2147483648), 2147483647, 0), (0, (-2147483648), 2147483647, 0), (0, 0, 8, 0), (0, (-2147483648), 2147483647, 0)]
  | 8 => [(2, 20, 0, 0), (2, 20, 0, 0), (3, 20, 1, 0), (3, 23, 1, 0), (3, 20, 1, 0), (3, 20, 3, 0), (4, 0, 0, 0), (5, 0, 0, 0), (0, (-2147483648), 2147483647, 0), (0, 0, 1, 0)]
  | 9 => [(6, 12, 0, 0), (8, 20, 3, 0), (0, (-2147483648), 2147483647, 0)]
  | 10 => [(1, 20, 8, 0), (1, 20, 8, 0), (1, 20, 8, 0), (1, 20, 2, 0), (0, (-2147483648), 2147483647, 0), (0, (-1), 7, 0), (0, (-1), 7, 0), (0, (-2147483648), 2147483647, 0), (0, (-2147483648), 2147483647, 0), (0, 0, 1, 0), (0, (-2147483648), 2147483647, 0)]
  | 11 => [(8, 20, 3, 0), (6, 9, 0, 0), (6, 20, 1000, 0)]
  | 12 => [(6, 20, 15, 0), (0, 0, 1, 0), (6, 20, 32, 0)]
  | 13 => [(8, 20, 3, 0), (6, 27, 2, 0), (10, 49, 29, 32), (6, 9, 0, 0), (6, 2, 0, 0), (6, 5, 0, 0), (6, 7, 0, 0), (6, 6, 0, 0), (6, 1, 0, 0), (6, 4, 0, 0), (6, 11, 0, 0), (10, 26, 20, 6409), (6, 20, 5, 0), (0, 0, 400, 0), (0, (-2147483648), 2147483647, 0), (0, (-2147483648), 2147483647, 0), (0, (-2147483648), 2147483647, 0)]
  | _ => []
def tk_K (k : Nat) : Nat := match k with
  | 20 => 0
  | 21 => 0
  | 22 => 0
  | 23 => 0
  | 24 => 0
  | 25 => 3
  | 26 => 3
  | 27 => 4
  | 28 => 5
  | 29 => 2
  | 30 => 6
  | 31 => 1
  | 32 => 0
  | 33 => 0
  | 34 => 0
  | 35 => 0
  | 36 => 0
  | 37 => 0
  | _ => 0
def tk_E (k r : Nat) (j x : Int) : Prop := match k with
  | 21 => 0 ≤ x ∧ x ≤ 1
  | 22 => 0 ≤ x ∧ x ≤ 9
  | 23 => 0 ≤ x ∧ x ≤ 20
  | 24 => 0 ≤ x ∧ x ≤ 11 ∧ (j % 5 = 0 → x ≤ 9) ∧ (j % 5 = 1 → x ≤ 7)
  | _ => True
def tk_EL (k r : Nat) (j x : Int) : Prop := match k with
  | _ => True
def tk_R (ld : Nat → Nat) (t : Nat → Nat × Nat × Nat) (k r j : Nat) (o : Option Nat) : Prop := match k with
  | 25 => ∃ a : Nat, o = some a ∧ t a = (10, 0, r)
  | 26 => o = some (ld (30 + j)) ∧ t (ld (30 + j)) = (10, 0, 10 + j)
  | 27 => o = some (ld (24 + j)) ∧ t (ld (24 + j)) = (3, 0, 6 + j)
  | 28 => ∀ a : Nat, o = some a → ∃ n r : Nat, t a = (8, n, r)
  | 30 => ∃ a : Nat, o = some a ∧ t a = (20, 8, 0)
  | _ => True
def tk_X (k n r : Nat) (fs : List Value) : Prop := match k with
  | 10 => ∀ x y : Int32, fs[5]? = some (.int x) → fs[6]? = some (.int y) → x.toInt ≠ -1 → y.toInt ≠ -1
  | 7 => ∀ x y : Int32, fs[4]? = some (.int x) → fs[6]? = some (.int y) → y.toInt ≠ 0 → x.toInt ≤ 399
  | 8 => n ≤ 512 ∧ r ≤ 12
  | _ => True
/-! cells by kinds: t tells of an address its kind (code, a number, a region); tk_G: every cell of a kind holds what its kind may hold -/
abbrev tk_T : Type := Nat → Nat × Nat × Nat
abbrev tk_S : Type := Nat × Int × Int × Int
def tk_V (ld : Nat → Nat) (t : tk_T) (n r : Nat) (sp : tk_S) (v : Value) : Prop := match sp.1 with
  | 0 => ∃ x : Int32, v = .int x ∧ sp.2.1 ≤ x.toInt ∧ x.toInt ≤ sp.2.2.1
  | 1 => ∃ a : Nat, v = .ref a ∧ t a = (sp.2.1.toNat, sp.2.2.1.toNat, r)
  | 2 => ∃ a : Nat, v = .ref a ∧ t a = (sp.2.1.toNat, n, sp.2.2.2.toNat)
  | 3 => ∃ a : Nat, v = .ref a ∧ t a = (sp.2.1.toNat, sp.2.2.1.toNat * r, sp.2.2.2.toNat)
  | 4 => ∃ x : Int32, v = .int x ∧ sp.2.1 ≤ x.toInt ∧ x.toInt ≤ n
  | 5 => ∃ x : Int32, v = .int x ∧ sp.2.1 ≤ x.toInt ∧ x.toInt ≤ r
  | 6 => ∃ a : Nat, v = .ref a ∧ t a = (sp.2.1.toNat, sp.2.2.1.toNat, sp.2.2.2.toNat)
  | 8 => v = .ref (ld sp.2.1.toNat) ∧ t (ld sp.2.1.toNat) = (sp.2.2.1.toNat, 0, sp.2.2.2.toNat)
  | 9 => v = .ref (ld (sp.2.1.toNat + r)) ∧ t (ld (sp.2.1.toNat + r)) = (sp.2.2.1.toNat, 0, r)
  | 10 => v = .ref (ld sp.2.1.toNat) ∧ t (ld sp.2.1.toNat) = (sp.2.2.1.toNat, sp.2.2.2.toNat / 16, sp.2.2.2.toNat % 16)
  | 11 => v = .ref (ld (sp.2.1.toNat + r)) ∧ t (ld (sp.2.1.toNat + r)) = (sp.2.2.1.toNat, sp.2.2.2.toNat, r)
  | _ => ∃ x : Int64, v = .long x ∧ sp.2.1 ≤ x.toInt ∧ x.toInt ≤ sp.2.2.1
def tk_A (cy : Nat → ClassId) (ld : Nat → Nat) (t : tk_T) (k n r : Nat) (e : va_E) : Prop := match tk_K k with
  | 0 => ∃ f : Nat → Int32, e = .inl (cy 0, n, .inl f) ∧ ∀ j : Nat, j < n → tk_E k r j (f j).toInt
  | 1 => ∃ f : Nat → Int64, e = .inl (cy 1, n, .inr (.inl f)) ∧ ∀ j : Nat, j < n → tk_EL k r j (f j).toInt
  | 2 => ∃ f : Nat → Int32, e = .inl (cy 2, n, .inl f)
  | c => ∃ f : Nat → Option Nat, e = .inl (cy c, n, .inr (.inr (.inr (.inr f)))) ∧ ∀ j : Nat, j < n → tk_R ld t k r j (f j)
def tk_O (cy : Nat → ClassId) (ld : Nat → Nat) (t : tk_T) (k n r : Nat) (e : va_E) : Prop :=
  if k < 20 then ∃ fs : List Value, e = .inr (k - 1, fs) ∧ fs.length = (tk_F k).length ∧ (∀ (j : Nat) (sp : tk_S), (tk_F k)[j]? = some sp → ∃ v : Value, fs[j]? = some v ∧ tk_V ld t n r sp v) ∧ tk_X k n r fs
  else tk_A cy ld t k n r e
def tk_G (D : va_G) (cy : Nat → ClassId) (ld : Nat → Nat) (t : tk_T) (X : List Nat) (H : Heap) : Prop := ∀ a : Nat, (t a).1 ≠ 0 → a ∉ X → ∃ e : va_E, va_at D vwCl (a, e) H ∧ tk_O cy ld t (t a).1 (t a).2.1 (t a).2.2 e
/-- field k of the object at a is v -/
def tk_f (D : va_G) (H : Heap) (a ci k : Nat) (v : Value) : Prop := ∃ cell : Cell, H[a]? = some cell ∧ cell.slots[D.2 ci k]? = some v
/-- place j of the row of ints at a is x -/
def tk_a (H : Heap) (a j : Nat) (x : Int32) : Prop := ∃ cell : Cell, H[a]? = some cell ∧ cell.slots[j]? = some (.int x)
/-- what may be written: codes with their regions from .. to -/
def tk_w (t : tk_T) (L : List (Nat × Nat × Nat)) (a : Nat) : Prop := (t a).1 ≠ 0 ∧ ∃ q ∈ L, (t a).1 = q.1 ∧ q.2.1 ≤ (t a).2.2 ∧ (t a).2.2 ≤ q.2.2
theorem tk_w.of {t : tk_T} {L : List (Nat × Nat × Nat)} {a k n r lo hi : Nat} (ha : t a = (k, n, r)) (hk : k ≠ 0) (hq : (k, lo, hi) ∈ L) (h1 : lo ≤ r) (h2 : r ≤ hi) : tk_w t L a := ⟨by rw [ha]; exact hk, _, hq, by rw [ha], by rw [ha]; exact h1, by rw [ha]; exact h2⟩
theorem tk_w.no {t : tk_T} {L : List (Nat × Nat × Nat)} {a k n r : Nat} (ha : t a = (k, n, r)) (h : ∀ q ∈ L, k = q.1 → q.2.1 ≤ r → r ≤ q.2.2 → False) : ¬ tk_w t L a := by sorry
theorem tk_w.sub {t : tk_T} {L L' : List (Nat × Nat × Nat)} (h : ∀ q ∈ L', ∃ q' ∈ L, q.1 = q'.1 ∧ q'.2.1 ≤ q.2.1 ∧ q.2.2 ≤ q'.2.2) : ∀ a, tk_w t L' a → tk_w t L a := by sorry
theorem tk_w.nil {t : tk_T} {a : Nat} : ¬ tk_w t [] a := by sorry
theorem tk_f.kept {D : va_G} {H H1 : Heap} {a ci k : Nat} {v : Value} (h : tk_f D H a ci k v) (hq : H1[a]? = H[a]?) : tk_f D H1 a ci k v := by sorry
theorem tk_f.lt {D : va_G} {H : Heap} {a ci k : Nat} {v : Value} (h : tk_f D H a ci k v) : a < H.size := by sorry
theorem tk_f.call {D : va_G} {H H1 : Heap} {a ci k : Nat} {v : Value} {w : Nat → Prop} (h : tk_f D H a ci k v) (hq : ∀ q : Nat, q < H.size → ¬ w q → H1[q]? = H[q]?) (hn : ¬ w a) : tk_f D H1 a ci k v := h.kept (hq a h.lt hn)
theorem tk_f.same {D : va_G} {H : Heap} {a ci k : Nat} {v v' : Value} (h : tk_f D H a ci k v) (h' : tk_f D H a ci k v') : v = v' := by sorry
theorem tk_ne {t : tk_T} {a b k n r k' n' r' : Nat} (ha : t a = (k, n, r)) (hb : t b = (k', n', r')) (h : k ≠ k' ∨ n ≠ n' ∨ r ≠ r') : a ≠ b := by sorry
theorem tk_out {b a : Nat} (h : a ≠ b) : a ∉ [b] := fun h2 => h (List.mem_singleton.mp h2)
theorem tk_no {a : Nat} : a ∉ ([] : List Nat) := fun h => by cases h
theorem tk_rng (x : Int32) : -2147483648 ≤ x.toInt ∧ x.toInt ≤ 2147483647 := ⟨Int32.le_toInt x, Int32.toInt_le x⟩
theorem tk_one {D : va_G} {H : Heap} {a : Nat} {e : va_E} (h : va_at D vwCl (a, e) H) : va_P D vwCl [(a, e)] H := fun k q hq => by
  cases k with
  | zero => cases hq; exact h
  | succ k => simp at hq
theorem tk_G.obj {D : va_G} {cy : Nat → ClassId} {ld : Nat → Nat} {t : tk_T} {X : List Nat} {H : Heap} {a ci n r : Nat} (hG : tk_G D cy ld t X H) (ha : t a = (ci + 1, n, r)) (hci : ci + 1 < 20) (hX : a ∉ X) : ∃ fs : List Value, va_at D vwCl (a, .inr (ci, fs)) H ∧ fs.length = (tk_F (ci + 1)).length ∧ (∀ (j : Nat) (sp : tk_S), (tk_F (ci + 1))[j]? = some sp → ∃ v : Value, fs[j]? = some v ∧ tk_V ld t n r sp v) ∧ tk_X (ci + 1) n r fs := by sorry
theorem tk_G.arr {D : va_G} {cy : Nat → ClassId} {ld : Nat → Nat} {t : tk_T} {X : List Nat} {H : Heap} {a k n r : Nat} (hG : tk_G D cy ld t X H) (ha : t a = (k, n, r)) (hk : 20 ≤ k) (hX : a ∉ X) : ∃ e : va_E, va_at D vwCl (a, e) H ∧ tk_A cy ld t k n r e := by sorry
/-- one cell is written anew -/
theorem tk_G.put {D : va_G} {cy : Nat → ClassId} {ld : Nat → Nat} {t : tk_T} {X : List Nat} {H H1 : Heap} {a : Nat} {e : va_E} (hG : tk_G D cy ld t X H) (h1 : va_at D vwCl (a, e) H1) (h2 : tk_O cy ld t (t a).1 (t a).2.1 (t a).2.2 e) (hq : ∀ q : Nat, q ≠ a → H1[q]? = H[q]?) : tk_G D cy ld t X H1 := by sorry
/-- a cell that lies bare is written -/
theorem tk_G.ajar {D : va_G} {cy : Nat → ClassId} {ld : Nat → Nat} {t : tk_T} {X : List Nat} {H H1 : Heap} {a : Nat} (hG : tk_G D cy ld t X H) (ha : a ∈ X) (hq : ∀ q : Nat, q ≠ a → H1[q]? = H[q]?) : tk_G D cy ld t X H1 := by sorry
theorem tk_G.hole {D : va_G} {cy : Nat → ClassId} {ld : Nat → Nat} {t : tk_T} {H : Heap} {a : Nat} (hG : tk_G D cy ld t [] H) : tk_G D cy ld t [a] H := fun b hb _ => hG b hb tk_no
theorem tk_G.close {D : va_G} {cy : Nat → ClassId} {ld : Nat → Nat} {t : tk_T} {H : Heap} {a ci n r : Nat} {fs : List Value} (hG : tk_G D cy ld t [a] H) (ha : t a = (ci + 1, n, r)) (hci : ci + 1 < 20) (hat : va_at D vwCl (a, .inr (ci, fs)) H) (hl : fs.length = (tk_F (ci + 1)).length) (hv : ∀ (j : Nat) (sp : tk_S), (tk_F (ci + 1))[j]? = some sp → ∃ v : Value, fs[j]? = some v ∧ tk_V ld t n r sp v) (hX : tk_X (ci + 1) n r fs) : tk_G D cy ld t [] H := by sorry
theorem tk_f.of {D : va_G} {H : Heap} {a ci k : Nat} {C : String} {T : u_T} {N : Nat} {fs : List Value} {v : Value} (h : va_at D vwCl (a, .inr (ci, fs)) H) (hc : vwCl[ci]? = some (C, T, N)) (hk : k < N) (hv : fs[k]? = some v) : tk_f D H a ci k v := by sorry
theorem tk_bm {z : Int} (h1 : -2147483648 ≤ z) (h2 : z ≤ 2147483647) : z.bmod (2 ^ 32) = z := by sorry
theorem tk_bmL {z : Int} (h1 : -9223372036854775808 ≤ z) (h2 : z ≤ 9223372036854775807) : z.bmod (2 ^ 64) = z := by sorry
def tk_sl : List Nat := [22, 20, 47, 33, 4, 3, 5, 2, 3, 3, 2]
def tk_sb : List (List Int32) := [[108, 117, 108, 108, 115, 32, 116, 105, 114, 101, 115, 32, 119, 97, 107, 101, 115, 32, 98, 97, 114, 115], [98, 101, 103, 105, 110, 32, 115, 105, 110, 103, 32, 112, 97, 114, 116, 32, 100, 97, 119, 110], [115, 107, 105, 108, 108, 32, 115, 116, 114, 111, 110, 103, 32, 107, 101, 121, 32, 115, 97, 109, 101, 32, 104, 111, 117, 114, 32, 119, 97, 107, 101, 32, 116, 104, 101, 105, 114, 115, 32, 100, 97, 121, 32, 109, 111, 111, 100], [100, 97, 121, 32, 104, 111, 117, 114, 32, 116, 117, 114, 110, 32, 100, 111, 110, 101, 32, 108, 97, 115, 116, 32, 119, 97, 107, 101, 32, 99, 111, 119, 115], [119, 105, 116, 104], [102, 111, 114], [116, 105, 109, 101, 115], [105, 102], [110, 111, 116], [97, 110, 100], [111, 114]]
/-- the constants' texts and two statics of the JDK, as they lie outside all kinds -/
def tk_Z (ld : Nat → Nat) (t : tk_T) (U : State) : Prop := vk_S 11 tk_sl tk_sb ld (fun i => ld (50 + i)) (fun a => (t a).1 ≠ 0) U U.heap ∧ va_Z "java/lang/String" "COMPACT_STRINGS" "Z" (.int 1) (fun a => (t a).1 ≠ 0) U U.heap ∧ va_Zq "jdk/internal/util/Preconditions" "SIOOBE_FORMATTER" "Ljava/util/function/BiFunction;" (fun a => (t a).1 ≠ 0) U U.heap
theorem tk_Z.at {ld : Nat → Nat} {t : tk_T} {s U : State} {L : List (Nat × Nat × Nat)} {H : Heap} {locs : List Loc} (h : tk_Z ld t s) (hS : va_S (tk_w t L) s.heap H locs) (hU : U.heap = H) (hW : s.vm.Alike U.vm) : tk_Z ld t U := by sorry
def tp (D : va_G) (cy : Nat → ClassId) (ld : Nat → Nat) (t : tk_T) (X : List Nat) (av : List Value) (B : Heap → Prop) : Array Value → State → Prop := va_Pc av (fun U => tk_G D cy ld t X U.heap ∧ kk_K D cy ld U ∧ B U.heap ∧ tk_Z ld t U)
def ti (D : va_G) (cy : Nat → ClassId) (ld : Nat → Nat) (t : tk_T) (X : List Nat) (post : Int32 → Heap → Prop) (A : Nat → Prop) : Array Value → State → Outcome → State → Prop := va_Qi (S := Int32) (fun r u => r = u) (fun u st => tk_G D cy ld t X st.heap ∧ post u st.heap) A
def tl (D : va_G) (cy : Nat → ClassId) (ld : Nat → Nat) (t : tk_T) (X : List Nat) (post : Int64 → Heap → Prop) (A : Nat → Prop) : Array Value → State → Outcome → State → Prop := va_Ql (S := Int64) (fun r u => r = u) (fun u st => tk_G D cy ld t X st.heap ∧ post u st.heap) A
def tv (D : va_G) (cy : Nat → ClassId) (ld : Nat → Nat) (t : tk_T) (X : List Nat) (post : Heap → Prop) (A : Nat → Prop) : Array Value → State → Outcome → State → Prop := va_Qv (S := Unit) (fun _ => True) (fun _ st => tk_G D cy ld t X st.heap ∧ post st.heap) A
def tq (D : va_G) (cy : Nat → ClassId) (ld : Nat → Nat) (t : tk_T) (X : List Nat) (post : Option Nat → Heap → Prop) (A : Nat → Prop) : Array Value → State → Outcome → State → Prop := va_Qq (S := Option Nat) (fun r u => r = u) (fun u st => tk_G D cy ld t X st.heap ∧ post u st.heap) A
theorem tp_blind {D : va_G} {cy : Nat → ClassId} {ld : Nat → Nat} {t : tk_T} {X : List Nat} {av : List Value} {B : Heap → Prop} : FrameBlind (tp D cy ld t X av B) := fun a U g mk q => by
  obtain ⟨q0, q1, q2, q3, q4⟩ := q
  exact ⟨q0, q1, kk_call g mk a q2, q3, ⟨vk_S.moved (u := U) (U := U.calling g mk a) (Vm.Alike.refl U.vm) q4.1, va_Z.moved (u := U) (U := U.calling g mk a) (Vm.Alike.refl U.vm) q4.2.1, q4.2.2.elim (fun h => Or.inl (va_Z.moved (u := U) (U := U.calling g mk a) (Vm.Alike.refl U.vm) h)) (fun h => h.elim (fun x h => Or.inr ⟨x, va_Z.moved (u := U) (U := U.calling g mk a) (Vm.Alike.refl U.vm) h⟩))⟩⟩
section TKB
variable {p : Program} {l : Launch} {e : Env} {R : Room} {s : State} {m : MethodId} {args : Array Value} {below : List Frame} {meth : Method} {c : Code} {H : Heap} {locs : List Loc} {cells slots : Nat} {Q : State → Prop}
variable {pc : Nat} {ls : Array Slot} {rest st : List Value} {A : Nat → Prop} {H0 : Heap} {mc ms nL maxL n index : Nat} {D : va_G} {cy : Nat → ClassId} {ld : Nat → Nat} {own C : String} {Ts wsy : List Cond} {cc bytes : ByteArray} {y : MethodName} {ret : Option FieldType} {rm : Room} {As : List Value} {a b ci nn rr : Nat} {t : tk_T} {X : List Nat} {T : u_T} {N : Nat} {L : List (Nat × Nat × Nat)}
theorem tk_get (hx : p.tables.exec = Jvm.exec) (hb : c.code = cc) {ref : String} (hts : ∀ w ∈ Ts, w.before args s = true) (hin : ∀ w ∈ u_ws C T N, w ∈ Ts) (hown : s.vm.findClass own = some m.cls) (hK : kk_K D cy ld s) (hG : tk_G D cy ld t X H) (ha : t a = (ci + 1, nn, rr)) (hci : ci + 1 < 20) (hX : a ∉ X) (hc : vwCl[ci]? = some (C, T, N)) (k : Nat) (hk : k < N) (hlink : (Cond.fieldLink own index ref (T k).2.1 (T k).2.2.1).before args s = true) (hsame : ∀ x, s.fieldFound? (T k).1 (T k).2.1 (T k).2.2.1 = some x → s.fieldFound? ref (T k).2.1 (T k).2.2.1 = some x) {sp : tk_S} (hsp : (tk_F (ci + 1))[k]? = some sp) (hdg : decode cc pc = .ok (.getfield index, 3))
    (kk : ∀ v : Value, tk_f D H a ci k v → tk_V ld t nn rr sp v → W p l e R s m args below meth c H locs cells slots Q (F0 m (pc + 3) ls (v :: rest))) : W p l e R s m args below meth c H locs cells slots Q (F0 m pc ls (.ref a :: rest)) := by
  obtain ⟨fs, h1, -, h3, -⟩ := hG.obj ha hci hX
  obtain ⟨v, hv, hV⟩ := h3 k _ hsp
  exact va_get hx hb hts hin hown hK.1 (tk_one h1) 0 rfl hc k hk hlink hsame hv hdg (kk v (tk_f.of h1 hc hk hv) hV)
theorem tk_getk (hx : p.tables.exec = Jvm.exec) (hb : c.code = cc) {ref : String} (hts : ∀ w ∈ Ts, w.before args s = true) (hin : ∀ w ∈ u_ws C T N, w ∈ Ts) (hown : s.vm.findClass own = some m.cls) (hK : kk_K D cy ld s) (hG : tk_G D cy ld t X H) (ha : t a = (ci + 1, nn, rr)) (hci : ci + 1 < 20) (hX : a ∉ X) (hc : vwCl[ci]? = some (C, T, N)) (k : Nat) (hk : k < N) (hlink : (Cond.fieldLink own index ref (T k).2.1 (T k).2.2.1).before args s = true) (hsame : ∀ x, s.fieldFound? (T k).1 (T k).2.1 (T k).2.2.1 = some x → s.fieldFound? ref (T k).2.1 (T k).2.2.1 = some x) {sp : tk_S} (hsp : (tk_F (ci + 1))[k]? = some sp) {v : Value} (hf : tk_f D H a ci k v) (hdg : decode cc pc = .ok (.getfield index, 3))
    (kk : W p l e R s m args below meth c H locs cells slots Q (F0 m (pc + 3) ls (v :: rest))) : W p l e R s m args below meth c H locs cells slots Q (F0 m pc ls (.ref a :: rest)) :=
  tk_get hx hb hts hin hown hK hG ha hci hX hc k hk hlink hsame hsp hdg (fun v' hf' _ => (hf'.same hf) ▸ kk)
/-- a field of an object whose fields are told, all else as it was -/
theorem tk_put0 (hexec : p.tables.exec = Jvm.exec) (hb : c.code = cc) {ref : String} (hts : ∀ w ∈ Ts, w.before args s = true) (hin : ∀ w ∈ u_ws C T N, w ∈ Ts) (ty0 : Nat → FieldType) (hty : ∀ k, k < N → parseFieldDescriptor (T k).2.2.1 = some (ty0 k)) (hnm : ∀ a, a < N → ∀ b, b < N → a ≠ b → (T a).2.1 ≠ (T b).2.1) (hown : s.vm.findClass own = some m.cls) (hK : kk_K D cy ld s) {fs : List Value} (hat : va_at D vwCl (a, .inr (ci, fs)) H) (hc : vwCl[ci]? = some (C, T, N)) (k : Nat) (hk : k < N) (hlink : (Cond.fieldLink own index ref (T k).2.1 (T k).2.2.1).before args s = true) (hsame : ∀ x, s.fieldFound? (T k).1 (T k).2.1 (T k).2.2.1 = some x → s.fieldFound? ref (T k).2.1 (T k).2.2.1 = some x) (hfin : (T k).2.2.2 = false) {ty : FieldType} {v : Value} (hd : parseFieldDescriptor (T k).2.2.1 = some ty) (hn : narrow ty v = v) (hfit : fits ty v = true) (hl : k < fs.length) (hdg : decode cc pc = .ok (.putfield index, 3))
    (kk : ∀ (H1 : Heap) (j : Nat), va_at D vwCl (a, .inr (ci, fs.set k v)) H1 → H1.size = H.size → (∀ q : Nat, q ≠ a → H1[q]? = H[q]?) → W p l e R s m args below meth c H1 (locs ++ [⟨a, j⟩]) cells slots Q (F0 m (pc + 3) ls rest)) : W p l e R s m args below meth c H locs cells slots Q (F0 m pc ls (v :: .ref a :: rest)) := by
  have hap := va_apart (own := own) hts hin ty0 hty hnm hK.1 hc
  obtain ⟨r, h1, cell, q1, q2, q3, q4⟩ := hat
  have hr : r = (C, T, N) := Option.some.inj (h1.symm.trans hc)
  subst hr
  obtain ⟨hS, hfc, kC, hkC, hkind⟩ := hK.1.1 ci _ hc
  obtain ⟨cf, kf, fi, f, hi, hsl⟩ := hS k hk
  have hlay := hts _ (hin _ (u_in_lay hk))
  unfold u_lay at hlay
  rw [if_neg (by rw [hfin]; decide)] at hlay
  have hst := (u_facts hfc hkC (u_lays hts hin hk) hi).1
  have h6 := u_store hfc hkC hkind hlay hi hd hn hfit
  refine W.putK hexec hb (f := f) ⟨hown, hlink, ⟨_, _, _, hsame _ hi⟩, hst⟩ (by rw [q2]; exact h6) q1 q3 (by rw [hsl]; exact k2_hasslot (q4 k hk)) rfl rfl hdg fun H' e1 e2 e3 => ?_
  rw [hsl] at e1 ⊢
  exact kk H' _ ⟨_, hc, t_OB.to (V := updV (vp_V fs) k v) ⟨_, e1, q2, q3, t_set q4 hap hk v⟩ (fun j _ => vp_updV_set hl v j)⟩ e2 e3
theorem tk_f.at {fs : List Value} {k : Nat} (h : va_at D vwCl (a, .inr (ci, fs)) H) (hc : vwCl[ci]? = some (C, T, N)) (hk : k < N) : tk_f D H a ci k (vp_V fs k) := by sorry
theorem tk_f.other {H1 : Heap} {fs : List Value} {k j : Nat} {v v' : Value} (h : va_at D vwCl (a, .inr (ci, fs)) H) (h1 : va_at D vwCl (a, .inr (ci, fs.set k v)) H1) (hc : vwCl[ci]? = some (C, T, N)) (hj : j < N) (hne : j ≠ k) (hf : tk_f D H a ci j v') : tk_f D H1 a ci j v' := by sorry
theorem tk_put (hx : p.tables.exec = Jvm.exec) (hb : c.code = cc) {ref : String} (hts : ∀ w ∈ Ts, w.before args s = true) (hin : ∀ w ∈ u_ws C T N, w ∈ Ts) (ty0 : Nat → FieldType) (hty : ∀ k, k < N → parseFieldDescriptor (T k).2.2.1 = some (ty0 k)) (hnm : ∀ a, a < N → ∀ b, b < N → a ≠ b → (T a).2.1 ≠ (T b).2.1) (hown : s.vm.findClass own = some m.cls) (hK : kk_K D cy ld s) (hG : tk_G D cy ld t X H) (hS : va_S A H0 H locs) (ha : t a = (ci + 1, nn, rr)) (hci : ci + 1 < 20) (hX : a ∉ X) (hc : vwCl[ci]? = some (C, T, N)) (k : Nat) (hk : k < N) (hlink : (Cond.fieldLink own index ref (T k).2.1 (T k).2.2.1).before args s = true) (hsame : ∀ x, s.fieldFound? (T k).1 (T k).2.1 (T k).2.2.1 = some x → s.fieldFound? ref (T k).2.1 (T k).2.2.1 = some x) (hfin : (T k).2.2.2 = false) {ty : FieldType} {v : Value} (hd : parseFieldDescriptor (T k).2.2.1 = some ty) (hn : narrow ty v = v) (hfit : fits ty v = true) {sp : tk_S} (hsp : (tk_F (ci + 1))[k]? = some sp) (hV : tk_V ld t nn rr sp v) (hXX : ∀ fs : List Value, tk_X (ci + 1) nn rr fs → tk_X (ci + 1) nn rr (fs.set k v)) (hA : A a) (hdg : decode cc pc = .ok (.putfield index, 3))
    (kk : ∀ (H1 : Heap) (locs1 : List Loc), tk_G D cy ld t X H1 → va_S A H0 H1 locs1 → tk_f D H1 a ci k v → (∀ q : Nat, q ≠ a → H1[q]? = H[q]?) → (∀ (j : Nat) (v' : Value), j < N → j ≠ k → tk_f D H a ci j v' → tk_f D H1 a ci j v') → W p l e R s m args below meth c H1 locs1 cells slots Q (F0 m (pc + 3) ls rest)) : W p l e R s m args below meth c H locs cells slots Q (F0 m pc ls (v :: .ref a :: rest)) := by
  obtain ⟨fs, hat, hl, h3, hxx⟩ := hG.obj ha hci hX
  obtain ⟨v0, hv0, -⟩ := h3 k _ hsp
  have hlt : k < fs.length := (List.getElem?_eq_some_iff.mp hv0).1
  refine tk_put0 hx hb hts hin ty0 hty hnm hown hK hat hc k hk hlink hsame hfin hd hn hfit hlt hdg (fun H1 j e1 z oq => ?_)
  refine kk H1 _ (hG.put e1 ?_ oq) (hS.put z oq hA) (tk_f.of e1 hc hk (by rw [List.getElem?_set_self hlt])) oq (fun j v' hj hne hf => tk_f.other hat e1 hc hj hne hf)
  rw [ha]
  show tk_O cy ld t (ci + 1) nn rr _
  unfold tk_O
  rw [if_pos hci]
  refine ⟨_, rfl, by rw [List.length_set]; exact hl, fun i sp' hi => ?_, hXX fs hxx⟩
  by_cases h : i = k
  · subst h
    cases hsp.symm.trans hi
    exact ⟨v, List.getElem?_set_self hlt, hV⟩
  · rw [List.getElem?_set_ne (Ne.symm h)]
    exact h3 i sp' hi
theorem tk_nat {i : Int32} {I : Int} (hi : i.toInt = I) (h0 : 0 ≤ I) : ((i.toNatClampNeg : Nat) : Int) = I := by sorry
theorem tk_idx {i : Int32} {I : Int} (hi : i.toInt = I) (h0 : 0 ≤ I) (h1 : I < (nn : Int)) : vp_in i nn ∧ i.toNatClampNeg < nn := by sorry
theorem tk_iald (hx : p.tables.exec = Jvm.exec) (hb : c.code = cc) (hK : kk_K D cy ld s) (hG : tk_G D cy ld t X H) {k : Nat} (ha : t a = (k, nn, rr)) (hk : 20 ≤ k) (hkA : ∀ e : va_E, tk_A cy ld t k nn rr e → ∃ f : Nat → Int32, e = .inl (cy 0, nn, .inl f) ∧ ∀ j : Nat, j < nn → tk_E k rr j (f j).toInt) (hX : a ∉ X) {i : Int32} {I : Int} (hi : i.toInt = I) (h0 : 0 ≤ I) (h1 : I < (nn : Int)) (hdg : decode cc pc = .ok (.iaload, 1))
    (kk : ∀ x : Int32, tk_E k rr I x.toInt → tk_a H a i.toNatClampNeg x → W p l e R s m args below meth c H locs cells slots Q (F0 m (pc + 1) ls (.int x :: rest))) : W p l e R s m args below meth c H locs cells slots Q (F0 m pc ls (.int i :: .ref a :: rest)) := by
  obtain ⟨e, h2, h3⟩ := hG.arr ha hk hX
  obtain ⟨f, rfl, hf⟩ := hkA e h3
  obtain ⟨hv, hlt⟩ := tk_idx hi h0 h1
  refine va_iald hx hb hK.1 (tk_one h2) 0 0 rfl rfl hv hdg (kk _ ?_ ?_)
  · have h := hf i.toNatClampNeg hlt
    rw [tk_nat hi h0] at h
    exact h
  · exact ⟨_, h2, arrV_read _ _ hlt⟩
theorem tk_iast (hx : p.tables.exec = Jvm.exec) (hb : c.code = cc) (hK : kk_K D cy ld s) (hG : tk_G D cy ld t X H) (hS : va_S A H0 H locs) {k : Nat} (ha : t a = (k, nn, rr)) (hk : 20 ≤ k) (hkA : ∀ e : va_E, tk_A cy ld t k nn rr e ↔ ∃ f : Nat → Int32, e = .inl (cy 0, nn, .inl f) ∧ ∀ j : Nat, j < nn → tk_E k rr j (f j).toInt) (hX : a ∉ X) {i x : Int32} {I : Int} (hi : i.toInt = I) (h0 : 0 ≤ I) (h1 : I < (nn : Int)) (hE : tk_E k rr I x.toInt) (hA : A a) (hdg : decode cc pc = .ok (.iastore, 1))
    (kk : ∀ (H1 : Heap) (locs1 : List Loc), tk_G D cy ld t X H1 → va_S A H0 H1 locs1 → (∀ q : Nat, q ≠ a → H1[q]? = H[q]?) → W p l e R s m args below meth c H1 locs1 cells slots Q (F0 m (pc + 1) ls rest)) : W p l e R s m args below meth c H locs cells slots Q (F0 m pc ls (.int x :: .int i :: .ref a :: rest)) := by
  obtain ⟨e, h2, h3⟩ := hG.arr ha hk hX
  obtain ⟨f, rfl, hf⟩ := (hkA e).mp h3
  obtain ⟨hv, hlt⟩ := tk_idx hi h0 h1
  refine W.iast hx hb h2 ((hK.1.2 0 _ rfl).1 nn (fun j => .int (f j))) (fun q => by cases q) (by show ¬ (i < 0 ∨ (arrV _ _ _).slots.size ≤ _); rw [arrV_size]; exact hv) rfl rfl hdg fun H1 e z oq => ?_
  refine kk H1 _ (hG.put (e := .inl (cy 0, nn, .inl (upd f i.toNatClampNeg x))) ?_ ?_ oq) (hS.put z oq hA) oq
  · show H1[a]? = some (vp_cell _ _)
    rw [e]
    rw [vp_cell_i, vp_cell_i, arrV_store]
    congr 2
    funext q
    by_cases hq : q = i.toNatClampNeg
    · subst hq
      simp [updV, upd]
    · simp [updV, upd, hq]
  · rw [ha]
    show tk_O cy ld t k nn rr _
    unfold tk_O
    rw [if_neg (Nat.not_lt.mpr hk)]
    refine (hkA _).mpr ⟨_, rfl, fun j hj => ?_⟩
    by_cases hq : j = i.toNatClampNeg
    · subst hq
      rw [pk_us, tk_nat hi h0]
      exact hE
    · rw [pk_un hq]
      exact hf j hj
theorem tk_lald (hx : p.tables.exec = Jvm.exec) (hb : c.code = cc) (hK : kk_K D cy ld s) (hG : tk_G D cy ld t X H) {k : Nat} (ha : t a = (k, nn, rr)) (hk : 20 ≤ k) (hkA : ∀ e : va_E, tk_A cy ld t k nn rr e → ∃ f : Nat → Int64, e = .inl (cy 1, nn, .inr (.inl f)) ∧ ∀ j : Nat, j < nn → tk_EL k rr j (f j).toInt) (hX : a ∉ X) {i : Int32} {I : Int} (hi : i.toInt = I) (h0 : 0 ≤ I) (h1 : I < (nn : Int)) (hdg : decode cc pc = .ok (.laload, 1))
    (kk : ∀ x : Int64, tk_EL k rr I x.toInt → W p l e R s m args below meth c H locs cells slots Q (F0 m (pc + 1) ls (.long x :: rest))) : W p l e R s m args below meth c H locs cells slots Q (F0 m pc ls (.int i :: .ref a :: rest)) := by
  obtain ⟨e, h2, h3⟩ := hG.arr ha hk hX
  obtain ⟨f, rfl, hf⟩ := hkA e h3
  obtain ⟨hv, hlt⟩ := tk_idx hi h0 h1
  refine va_lald hx hb hK.1 (tk_one h2) 0 1 rfl rfl hv hdg (kk _ ?_)
  have h := hf i.toNatClampNeg hlt
  rw [tk_nat hi h0] at h
  exact h
theorem tk_last (hx : p.tables.exec = Jvm.exec) (hb : c.code = cc) (hK : kk_K D cy ld s) (hG : tk_G D cy ld t X H) (hS : va_S A H0 H locs) {k : Nat} (ha : t a = (k, nn, rr)) (hk : 20 ≤ k) (hkA : ∀ e : va_E, tk_A cy ld t k nn rr e ↔ ∃ f : Nat → Int64, e = .inl (cy 1, nn, .inr (.inl f)) ∧ ∀ j : Nat, j < nn → tk_EL k rr j (f j).toInt) (hX : a ∉ X) {i : Int32} {x : Int64} {I : Int} (hi : i.toInt = I) (h0 : 0 ≤ I) (h1 : I < (nn : Int)) (hE : tk_EL k rr I x.toInt) (hA : A a) (hdg : decode cc pc = .ok (.lastore, 1))
    (kk : ∀ (H1 : Heap) (locs1 : List Loc), tk_G D cy ld t X H1 → va_S A H0 H1 locs1 → (∀ q : Nat, q ≠ a → H1[q]? = H[q]?) → W p l e R s m args below meth c H1 locs1 cells slots Q (F0 m (pc + 1) ls rest)) : W p l e R s m args below meth c H locs cells slots Q (F0 m pc ls (.long x :: .int i :: .ref a :: rest)) := by
  obtain ⟨e, h2, h3⟩ := hG.arr ha hk hX
  obtain ⟨f, rfl, hf⟩ := (hkA e).mp h3
  obtain ⟨hv, hlt⟩ := tk_idx hi h0 h1
  refine W.last hx hb h2 ((hK.1.2 1 _ rfl).1 nn (fun j => .long (f j))) (fun q => by cases q) (by show ¬ (i < 0 ∨ (arrV _ _ _).slots.size ≤ _); rw [arrV_size]; exact hv) rfl rfl hdg fun H1 e z oq => ?_
  refine kk H1 _ (hG.put (e := .inl (cy 1, nn, .inr (.inl (vp_updL f i.toNatClampNeg x)))) ?_ ?_ oq) (hS.put z oq hA) oq
  · show H1[a]? = some (vp_cell _ _)
    rw [e]
    rw [vp_cell_l, vp_cell_l, arrV_store]
    congr 2
    funext q
    by_cases hq : q = i.toNatClampNeg
    · subst hq
      simp [updV, vp_updL]
    · simp [updV, vp_updL, hq]
  · rw [ha]
    show tk_O cy ld t k nn rr _
    unfold tk_O
    rw [if_neg (Nat.not_lt.mpr hk)]
    refine (hkA _).mpr ⟨_, rfl, fun j hj => ?_⟩
    by_cases hq : j = i.toNatClampNeg
    · subst hq
      rw [pk_uLs, tk_nat hi h0]
      exact hE
    · rw [pk_uLn hq]
      exact hf j hj
theorem tk_zald (hx : p.tables.exec = Jvm.exec) (hb : c.code = cc) (hK : kk_K D cy ld s) (hG : tk_G D cy ld t X H) {k : Nat} (ha : t a = (k, nn, rr)) (hk : 20 ≤ k) (hkA : ∀ e : va_E, tk_A cy ld t k nn rr e → ∃ f : Nat → Int32, e = .inl (cy 2, nn, .inl f)) (hX : a ∉ X) {i : Int32} {I : Int} (hi : i.toInt = I) (h0 : 0 ≤ I) (h1 : I < (nn : Int)) (hdg : decode cc pc = .ok (.baload, 1))
    (kk : ∀ x : Int32, tk_a H a i.toNatClampNeg x → W p l e R s m args below meth c H locs cells slots Q (F0 m (pc + 1) ls (.int x :: rest))) : W p l e R s m args below meth c H locs cells slots Q (F0 m pc ls (.int i :: .ref a :: rest)) := by
  obtain ⟨e, h2, h3⟩ := hG.arr ha hk hX
  obtain ⟨f, rfl⟩ := hkA e h3
  obtain ⟨hv, hlt⟩ := tk_idx hi h0 h1
  exact va_zald hx hb hK.1 (tk_one h2) 0 2 rfl rfl hv hdg (kk _ ⟨_, h2, arrV_read _ _ hlt⟩)
theorem tk_zast (hx : p.tables.exec = Jvm.exec) (hb : c.code = cc) (hK : kk_K D cy ld s) (hG : tk_G D cy ld t X H) (hS : va_S A H0 H locs) {k : Nat} (ha : t a = (k, nn, rr)) (hk : 20 ≤ k) (hkA : ∀ e : va_E, tk_A cy ld t k nn rr e ↔ ∃ f : Nat → Int32, e = .inl (cy 2, nn, .inl f)) (hX : a ∉ X) {i x : Int32} {I : Int} (hi : i.toInt = I) (h0 : 0 ≤ I) (h1 : I < (nn : Int)) (hA : A a) (hdg : decode cc pc = .ok (.bastore, 1))
    (kk : ∀ (H1 : Heap) (locs1 : List Loc), tk_G D cy ld t X H1 → va_S A H0 H1 locs1 → (∀ q : Nat, q ≠ a → H1[q]? = H[q]?) → W p l e R s m args below meth c H1 locs1 cells slots Q (F0 m (pc + 1) ls rest)) : W p l e R s m args below meth c H locs cells slots Q (F0 m pc ls (.int x :: .int i :: .ref a :: rest)) := by
  obtain ⟨e, h2, h3⟩ := hG.arr ha hk hX
  obtain ⟨f, rfl⟩ := (hkA e).mp h3
  obtain ⟨hv, hlt⟩ := tk_idx hi h0 h1
  refine W.zast hx hb h2 ((hK.1.2 2 _ rfl).1 nn (fun j => .int (f j))) (fun q => by cases q) (by show ¬ (i < 0 ∨ (arrV _ _ _).slots.size ≤ _); rw [arrV_size]; exact hv) rfl rfl hdg fun H1 e z oq => ?_
  refine kk H1 _ (hG.put (e := .inl (cy 2, nn, .inl (upd f i.toNatClampNeg (vp_nar .boolean x)))) ?_ ?_ oq) (hS.put z oq hA) oq
  · show H1[a]? = some (vp_cell _ _)
    rw [e]
    rw [vp_cell_i, vp_cell_i, arrV_store]
    congr 2
    funext q
    by_cases hq : q = i.toNatClampNeg
    · subst hq
      simp [updV, upd, vp_nar]
      try rfl
    · simp [updV, upd, hq]
  · rw [ha]
    show tk_O cy ld t k nn rr _
    unfold tk_O
    rw [if_neg (Nat.not_lt.mpr hk)]
    exact (hkA _).mpr ⟨_, rfl⟩
theorem tk_aald (hx : p.tables.exec = Jvm.exec) (hb : c.code = cc) (hK : kk_K D cy ld s) (hG : tk_G D cy ld t X H) {k : Nat} (cx : Nat) {ty : FieldType} (ht : (tys0 cy)[cx]? = some (cy cx, ty)) (href : ty.isReference = true) (ha : t a = (k, nn, rr)) (hk : 20 ≤ k) (hkA : ∀ e : va_E, tk_A cy ld t k nn rr e → ∃ f : Nat → Option Nat, e = .inl (cy cx, nn, .inr (.inr (.inr (.inr f)))) ∧ ∀ j : Nat, j < nn → tk_R ld t k rr j (f j)) (hX : a ∉ X) {i : Int32} {I : Int} (hi : i.toInt = I) (h0 : 0 ≤ I) (h1 : I < (nn : Int)) (hdg : decode cc pc = .ok (.aaload, 1))
    (kk : ∀ o : Option Nat, tk_R ld t k rr i.toNatClampNeg o → W p l e R s m args below meth c H locs cells slots Q (F0 m (pc + 1) ls (va_rf o :: rest))) : W p l e R s m args below meth c H locs cells slots Q (F0 m pc ls (.int i :: .ref a :: rest)) := by
  obtain ⟨e, h2, h3⟩ := hG.arr ha hk hX
  obtain ⟨f, rfl, hf⟩ := hkA e h3
  obtain ⟨hv, hlt⟩ := tk_idx hi h0 h1
  exact W.aald (v := va_rf (f i.toNatClampNeg)) (ty := ty) hx hb h2 ((hK.1.2 cx _ ht).1 nn (fun j => va_rf (f j))) href (fun q => by cases q) (by show ¬ (i < 0 ∨ (arrV _ _ _).slots.size ≤ _); rw [arrV_size]; exact hv) (by show (arrV _ _ _).slots[_]? = _; rw [arrV_read _ _ hlt]) rfl rfl hdg (kk _ (hf _ hlt))
theorem tk_aast (hx : p.tables.exec = Jvm.exec) (hb : c.code = cc) (hK : kk_K D cy ld s) (hG : tk_G D cy ld t X H) (hS : va_S A H0 H locs) {k : Nat} (cx : Nat) (ht : (tys0 cy)[cx]? = some (cy cx, .object C)) (ha : t a = (k, nn, rr)) (hk : 20 ≤ k) (hkA : ∀ e : va_E, tk_A cy ld t k nn rr e ↔ ∃ f : Nat → Option Nat, e = .inl (cy cx, nn, .inr (.inr (.inr (.inr f)))) ∧ ∀ j : Nat, j < nn → tk_R ld t k rr j (f j)) (hX : a ∉ X) {i : Int32} {I : Int} {v n2 r2 : Nat} (hv0 : t v = (ci + 1, n2, r2)) (hci : ci + 1 < 20) (hXv : v ∉ X) (hc : vwCl[ci]? = some (C, T, N)) (hi : i.toInt = I) (h0 : 0 ≤ I) (h1 : I < (nn : Int)) (hR : tk_R ld t k rr i.toNatClampNeg (some v)) (hA : A a) (hdg : decode cc pc = .ok (.aastore, 1))
    (kk : ∀ (H1 : Heap) (locs1 : List Loc), tk_G D cy ld t X H1 → va_S A H0 H1 locs1 → (∀ q : Nat, q ≠ a → H1[q]? = H[q]?) → W p l e R s m args below meth c H1 locs1 cells slots Q (F0 m (pc + 1) ls rest)) : W p l e R s m args below meth c H locs cells slots Q (F0 m pc ls (.ref v :: .int i :: .ref a :: rest)) := by
  obtain ⟨e, h2, h3⟩ := hG.arr ha hk hX
  obtain ⟨f, rfl, hf⟩ := (hkA e).mp h3
  obtain ⟨hv, hlt⟩ := tk_idx hi h0 h1
  obtain ⟨fs, hat, -⟩ := hG.obj hv0 hci hXv
  obtain ⟨r', hr', cellV, g1, g2, g3, -⟩ := hat
  have hcls := (hK.1.1 ci _ hc).2
  obtain ⟨kA, comp, k1, k2, k3, -⟩ := (hK.1.2 cx _ ht).2
  have hcomp : comp = D.1 ci := Option.some.inj (k3.symm.trans hcls.1)
  subst hcomp
  obtain ⟨kC, hkC, -⟩ := hcls.2
  refine W.aast hx hb h2 (fun q h => by cases h) (fun h => by cases h) k1 k2 rfl hkC ⟨fun q => hv (Or.inl q), by show _ < (arrV _ _ _).slots.size; rw [arrV_size]; exact hlt⟩ g1 (fun q h => by rw [g3] at h; cases h) (by rw [g2]; exact hkC) (by rw [g2]; exact va_assign hcls) rfl rfl hdg fun H1 e z oq => ?_
  refine kk H1 _ (hG.put (e := .inl (cy cx, nn, .inr (.inr (.inr (.inr (va_up f i.toNatClampNeg (some v))))))) ?_ ?_ oq) (hS.put z oq hA) oq
  · show H1[a]? = some (vp_cell _ _)
    rw [e]
    rw [vp_cell_q, vp_cell_q, arrV_store]
    congr 2
    funext q
    by_cases hq : q = i.toNatClampNeg
    · subst hq
      simp [updV, va_up, va_rf]
    · simp [updV, va_up, hq]
  · rw [ha]
    show tk_O cy ld t k nn rr _
    unfold tk_O
    rw [if_neg (Nat.not_lt.mpr hk)]
    refine (hkA _).mpr ⟨_, rfl, fun j hj => ?_⟩
    by_cases hq : j = i.toNatClampNeg
    · subst hq
      unfold va_up
      rw [if_pos rfl]
      exact hR
    · unfold va_up
      rw [if_neg hq]
      exact hf j hj
theorem tk_alen (hx : p.tables.exec = Jvm.exec) (hb : c.code = cc) (hK : kk_K D cy ld s) (hG : tk_G D cy ld t X H) {k : Nat} (cx : Nat) {ty : FieldType} (ht : (tys0 cy)[cx]? = some (cy cx, ty)) (ha : t a = (k, nn, rr)) (hk : 20 ≤ k) (hkA : ∀ e : va_E, tk_A cy ld t k nn rr e → ∃ x, e = .inl (cy cx, nn, x)) (hX : a ∉ X) (hn : nn < 2 ^ 31) (hdg : decode cc pc = .ok (.arraylength, 1))
    (kk : ∀ v : Int32, v.toInt = (nn : Int) → W p l e R s m args below meth c H locs cells slots Q (F0 m (pc + 1) ls (.int v :: rest))) : W p l e R s m args below meth c H locs cells slots Q (F0 m pc ls (.ref a :: rest)) := by
  obtain ⟨e, h2, h3⟩ := hG.arr ha hk hX
  obtain ⟨x, rfl⟩ := hkA e h3
  exact va_alen hx hb hK.1 (tk_one h2) 0 cx rfl ht rfl hdg (kk _ (nI_toInt hn))
theorem tk_copy (hexec : p.tables.exec = Jvm.exec) (hb : c.code = cc) (hml : c.maxLocals = ls.size) (hown : s.vm.findClass own = some m.cls) (hlink : (Cond.methodLink own index arraycopyName).before args s = true) (hnat : (Cond.native arraycopyName).before args s = true) (hstat : (Cond.static arraycopyName).before args s = true) (hini : (Cond.initialized "java/lang/System").before args s = true)
    (hK : kk_K D cy ld s) (hG : tk_G D cy ld t X H) (hS : va_S A H0 H locs) {a0 k0 k1 n0 n1 r0 r1 : Nat} (ha0 : t a0 = (k0, n0, r0)) (ha1 : t a = (k1, n1, r1)) (hk0 : 20 ≤ k0) (hk1 : 20 ≤ k1) (hkA0 : ∀ e : va_E, tk_A cy ld t k0 n0 r0 e → ∃ f : Nat → Int32, e = .inl (cy 0, n0, .inl f) ∧ ∀ j : Nat, j < n0 → tk_E k0 r0 j (f j).toInt) (hkA1 : ∀ e : va_E, tk_A cy ld t k1 n1 r1 e ↔ ∃ f : Nat → Int32, e = .inl (cy 0, n1, .inl f) ∧ ∀ j : Nat, j < n1 → tk_E k1 r1 j (f j).toInt) (hX0 : a0 ∉ X) (hX1 : a ∉ X)
    {sp dp nc : Int32} {SP DP NC : Int} (hsp : sp.toInt = SP) (hdp : dp.toInt = DP) (hnc : nc.toInt = NC) (h1 : 0 ≤ SP) (h2 : 0 ≤ DP) (h3 : 0 ≤ NC) (h4 : SP + NC ≤ (n0 : Int)) (h5 : DP + NC ≤ (n1 : Int)) (hE : ∀ (j x : Int), 0 ≤ j → j < NC → tk_E k0 r0 (SP + j) x → tk_E k1 r1 (DP + j) x) (hA : A a)
    (hframes : 1 ≤ R.frames) (hlocals : (rest.map fun v => v.category).sum + (nativeFrameWords "java/lang/System" "arraycopy" 5 + 11) ≤ R.locals) (hdg : decode cc pc = .ok (.invokestatic index, 3))
    (kk : ∀ (H1 : Heap) (locs1 : List Loc), tk_G D cy ld t X H1 → va_S A H0 H1 locs1 → (∀ q : Nat, q ≠ a → H1[q]? = H[q]?) → W p l e R s m args below meth c H1 locs1 cells slots Q (F0 m (pc + 3) ls rest)) : W p l e R s m args below meth c H locs cells slots Q (F0 m pc ls (.int nc :: .int dp :: .ref a :: .int sp :: .ref a0 :: rest)) := by
  obtain ⟨e0, hc0, q0⟩ := hG.arr ha0 hk0 hX0
  obtain ⟨f, rfl, hf⟩ := hkA0 e0 q0
  obtain ⟨e1, hc1, q1⟩ := hG.arr ha1 hk1 hX1
  obtain ⟨g, rfl, hg⟩ := (hkA1 e1).mp q1
  change H[a0]? = some (vp_cell (cy 0) (n0, .inl f)) at hc0
  change H[a]? = some (vp_cell (cy 0) (n1, .inl g)) at hc1
  have z1 := tk_nat hsp h1
  have z2 := tk_nat hdp h2
  have z3 := tk_nat hnc h3
  have g1 : ¬ sp < 0 := fun h => by have := Int32.lt_iff_toInt_lt.mp h; rw [hsp] at this; exact absurd this (by show ¬ SP < 0; omega)
  have g2 : ¬ dp < 0 := fun h => by have := Int32.lt_iff_toInt_lt.mp h; rw [hdp] at this; exact absurd this (by show ¬ DP < 0; omega)
  have g3 : ¬ nc < 0 := fun h => by have := Int32.lt_iff_toInt_lt.mp h; rw [hnc] at this; exact absurd this (by show ¬ NC < 0; omega)
  intro T hT Xs
  obtain ⟨-, kq0, hq0, cm0, hkk0⟩ := (hK.1.2 0 _ rfl).1 n0 (fun j => .int (f j))
  obtain ⟨-, kq1, hq1, cm1, hkk1⟩ := (hK.1.2 0 _ rfl).1 n1 (fun j => .int (g j))
  obtain ⟨vm', X', step⟩ := Xs.arraycopy hexec hown hlink hnat hstat hini (src := a0) (dst := a) (cs := vp_cell (cy 0) (n0, .inl f)) (cd := vp_cell (cy 0) (n1, .inl g)) (srcPos := sp) (destPos := dp) (n := nc) (by rw [hT]; exact hc0) (by rw [hT]; exact hc1)
    (fun _ h => by cases h) (fun _ h => by cases h) (fun h => by cases h) (fun h => by cases h) hq0 hq1 hkk0 hkk1 (by simp [refKind]) g1 g2 g3
    (by rw [hsp, hnc]; show ¬ _ > ((arrV (cy 0) n0 (fun j => .int (f j))).slots.size : Int); rw [arrV_size]; omega)
    (by rw [hdp, hnc]; show ¬ _ > ((arrV (cy 0) n1 (fun j => .int (g j))).slots.size : Int); rw [arrV_size]; omega)
    (fun vm₁ _ i hi => by
      have e : (vp_cell (cy 0) (n0, .inl f)).slots.getD (sp.toNatClampNeg + i) .null = .int (f (sp.toNatClampNeg + i)) := by
        show (arrV (cy 0) n0 (fun j => .int (f j))).slots.getD _ _ = _
        rw [Array.getD_eq_getD_getElem?, arrV_read _ _ (by omega)]
        rfl
      refine ⟨?_, ?_⟩
      · rw [e]
        rfl
      · rw [e]
        exact trivial)
    (g := F0 m pc ls (.int nc :: .int dp :: .ref a :: .int sp :: .ref a0 :: rest)) rfl (by rw [hml]) (rest := rest) rfl (by rw [hb]; exact hdg) hframes (by show 2 * 0 + _ + _ ≤ _; omega)
  have e1 : copied (vp_cell (cy 0) (n0, .inl f)) (vp_cell (cy 0) (n1, .inl g)) sp dp nc = vp_cell (cy 0) (n1, .inl (va_cpy f g sp.toNatClampNeg dp.toNatClampNeg nc.toNatClampNeg)) := va_copied (fun z => .int z) (cy 0) (cy 0) f g (by omega)
  rw [e1] at X' step
  have hl : a < H.size := (Array.getElem?_eq_some_iff.mp hc1).1
  have hheap : ((T.setVm vm').setCell a (vp_cell (cy 0) (n1, .inl (va_cpy f g sp.toNatClampNeg dp.toNatClampNeg nc.toNatClampNeg)))).heap = H.setIfInBounds a (vp_cell (cy 0) (n1, .inl (va_cpy f g sp.toNatClampNeg dp.toNatClampNeg nc.toNatClampNeg))) := by rw [← hT]; rfl
  have oq : ∀ q : Nat, q ≠ a → (H.setIfInBounds a (vp_cell (cy 0) (n1, .inl (va_cpy f g sp.toNatClampNeg dp.toNatClampNeg nc.toNatClampNeg))))[q]? = H[q]? := fun q hq => by simp [Array.getElem?_setIfInBounds, Ne.symm hq]
  have hG1 : tk_G D cy ld t X (H.setIfInBounds a (vp_cell (cy 0) (n1, .inl (va_cpy f g sp.toNatClampNeg dp.toNatClampNeg nc.toNatClampNeg)))) := by
    refine hG.put (a := a) (e := .inl (cy 0, n1, .inl (va_cpy f g sp.toNatClampNeg dp.toNatClampNeg nc.toNatClampNeg))) ?_ ?_ oq
    · show (H.setIfInBounds a _)[a]? = some _
      simp [Array.getElem?_setIfInBounds, hl]
    · rw [ha1]
      show tk_O cy ld t k1 n1 r1 _
      unfold tk_O
      rw [if_neg (Nat.not_lt.mpr hk1)]
      refine (hkA1 _).mpr ⟨_, rfl, fun j hj => ?_⟩
      unfold va_cpy
      by_cases h : dp.toNatClampNeg ≤ j ∧ j < dp.toNatClampNeg + nc.toNatClampNeg
      · rw [if_pos h]
        have w := hf (sp.toNatClampNeg + (j - dp.toNatClampNeg)) (by omega)
        have := hE ((j : Int) - DP) _ (by omega) (by omega) (by rw [show SP + ((j : Int) - DP) = ((sp.toNatClampNeg + (j - dp.toNatClampNeg) : Nat) : Int) by omega]; exact w)
        rw [show DP + ((j : Int) - DP) = (j : Int) by omega] at this
        exact this
      · rw [if_neg h]
        exact hg j hj
  obtain ⟨t9, a9, b9⟩ := kk _ _ hG1 ⟨by simp; exact hS.1, fun q g1 g2 => by
      rw [oq q (fun e => g2 (by rw [e]; exact hA))]
      exact hS.2.1 q g1 g2, fun q hq => by
      rcases List.mem_append.mp hq with h | h
      · exact hS.2.2 q h
      · obtain ⟨z, -, hz⟩ := List.mem_map.mp h
        rw [← hz]
        exact hA⟩ oq _ hheap X'
  exact ⟨t9, step t9 a9, b9⟩
theorem tk_Vi {post : Int32 → Heap → Prop} (S : CallFix p m c cc nL s args Ts own) (hK : kk_K D cy ld s) (hG : tk_G D cy ld t X H) {LA : List (Nat × Nat × Nat)} (hZ : tk_Z ld t s) (hS : va_S (tk_w t LA) s.heap H locs) {B : Heap → Prop} (hM : Met l y wsy rm (tp D cy ld t X (.ref b :: As) B) (ti D cy ld t X post (tk_w t L)) mc ms (tk_w t L)) (hB : B H) (cw : CallW R s args own C index y bytes maxL ret wsy rm mc ms n) (hb0 : t b = (ci + 1, nn, rr)) (hci : ci + 1 < 20) (hXb : b ∉ X) (hcl : vwCl[ci]? = some (C, T, N)) (hsub : ∀ q, tk_w t L q → tk_w t LA q) (hn : As.length = n) (hsize : ls.size = nL) (hst : st = As.reverse ++ .ref b :: rest) (hW : (rest.map fun v => v.category).sum ≤ 8) (hdg : decode cc pc = .ok (.invokevirtual index, 3)) (hf : cells + mc ≤ R.cells ∧ slots + ms ≤ R.slots)
    (kk : ∀ (r : Int32) (H1 : Heap) (locs1 : List Loc), post r H1 → tk_G D cy ld t X H1 → va_S (tk_w t LA) s.heap H1 locs1 → (∀ q : Nat, q < H.size → ¬ tk_w t L q → H1[q]? = H[q]?) → W p l e R s m args below meth c H1 locs1 (cells + mc) (slots + ms) Q (F0 m (pc + 3) ls (.int r :: rest))) : W p l e R s m args below meth c H locs cells slots Q (F0 m pc ls st) := by
  subst hst
  obtain ⟨fs0, hat0, -⟩ := hG.obj hb0 hci hXb
  refine va_calli (va_runV (As := As) (rest := rest) S hM cw ⟨tp_blind, va_recv hK.1 (tk_one hat0) hcl (q0 := 0) rfl, fun U hU hW2 => ⟨rfl, by rw [hU]; exact hG, kk_warm hW2 hK, by rw [hU]; exact hB, tk_Z.at hZ hS hU hW2.alike⟩⟩ rfl hn hsize rfl (lv_room hW) hdg hf) hS (fun q _ h => hsub q h) hsub (fun r u t9 H1 locs1 ht hvm hw hBB hz1 hk1 hS1 => ?_)
  obtain ⟨hG1, hp1⟩ := hBB
  subst hw
  rw [ht] at hG1 hp1
  exact kk r H1 locs1 hp1 hG1 hS1 hk1
theorem tk_Ti {post : Int32 → Heap → Prop} {j : Nat} (S : CallFix p m c cc nL s args Ts own) (hK : kk_K D cy ld s) (hG : tk_G D cy ld t X H) {LA : List (Nat × Nat × Nat)} (hZ : tk_Z ld t s) (hS : va_S (tk_w t LA) s.heap H locs) {B : Heap → Prop} (hM : Met l y wsy rm (tp D cy ld t X (.ref (ld j) :: As) B) (ti D cy ld t X post (tk_w t L)) mc ms (tk_w t L)) (hB : B H) (cw : CallW R s args own "java/lang/String" index y bytes maxL ret wsy rm mc ms n) (hj : j < 11) (hsub : ∀ q, tk_w t L q → tk_w t LA q) (hn : As.length = n) (hsize : ls.size = nL) (hst : st = As.reverse ++ .ref (ld j) :: rest) (hW : (rest.map fun v => v.category).sum ≤ 8) (hdg : decode cc pc = .ok (.invokevirtual index, 3)) (hf : cells + mc ≤ R.cells ∧ slots + ms ≤ R.slots)
    (kk : ∀ (r : Int32) (H1 : Heap) (locs1 : List Loc), post r H1 → tk_G D cy ld t X H1 → va_S (tk_w t LA) s.heap H1 locs1 → (∀ q : Nat, q < H.size → ¬ tk_w t L q → H1[q]? = H[q]?) → W p l e R s m args below meth c H1 locs1 (cells + mc) (slots + ms) Q (F0 m (pc + 3) ls (.int r :: rest))) : W p l e R s m args below meth c H locs cells slots Q (F0 m pc ls st) := by
  subst hst
  refine va_calli (va_runV (As := As) (rest := rest) S hM cw ⟨tp_blind, vk_recv (vk_S.narrow hZ.1 (fun _ h => h.1)) hj hS, fun U hU hW2 => ⟨rfl, by rw [hU]; exact hG, kk_warm hW2 hK, by rw [hU]; exact hB, tk_Z.at hZ hS hU hW2.alike⟩⟩ rfl hn hsize rfl (lv_room hW) hdg hf) hS (fun q _ h => hsub q h) hsub (fun r u t9 H1 locs1 ht hvm hw hBB hz1 hk1 hS1 => ?_)
  obtain ⟨hG1, hp1⟩ := hBB
  subst hw
  rw [ht] at hG1 hp1
  exact kk r H1 locs1 hp1 hG1 hS1 hk1
theorem tk_Vl {post : Int64 → Heap → Prop} (S : CallFix p m c cc nL s args Ts own) (hK : kk_K D cy ld s) (hG : tk_G D cy ld t X H) {LA : List (Nat × Nat × Nat)} (hZ : tk_Z ld t s) (hS : va_S (tk_w t LA) s.heap H locs) {B : Heap → Prop} (hM : Met l y wsy rm (tp D cy ld t X (.ref b :: As) B) (tl D cy ld t X post (tk_w t L)) mc ms (tk_w t L)) (hB : B H) (cw : CallW R s args own C index y bytes maxL ret wsy rm mc ms n) (hb0 : t b = (ci + 1, nn, rr)) (hci : ci + 1 < 20) (hXb : b ∉ X) (hcl : vwCl[ci]? = some (C, T, N)) (hsub : ∀ q, tk_w t L q → tk_w t LA q) (hn : As.length = n) (hsize : ls.size = nL) (hst : st = As.reverse ++ .ref b :: rest) (hW : (rest.map fun v => v.category).sum ≤ 8) (hdg : decode cc pc = .ok (.invokevirtual index, 3)) (hf : cells + mc ≤ R.cells ∧ slots + ms ≤ R.slots)
    (kk : ∀ (r : Int64) (H1 : Heap) (locs1 : List Loc), post r H1 → tk_G D cy ld t X H1 → va_S (tk_w t LA) s.heap H1 locs1 → (∀ q : Nat, q < H.size → ¬ tk_w t L q → H1[q]? = H[q]?) → W p l e R s m args below meth c H1 locs1 (cells + mc) (slots + ms) Q (F0 m (pc + 3) ls (.long r :: rest))) : W p l e R s m args below meth c H locs cells slots Q (F0 m pc ls st) := by
  subst hst
  obtain ⟨fs0, hat0, -⟩ := hG.obj hb0 hci hXb
  refine va_calll (va_runV (As := As) (rest := rest) S hM cw ⟨tp_blind, va_recv hK.1 (tk_one hat0) hcl (q0 := 0) rfl, fun U hU hW2 => ⟨rfl, by rw [hU]; exact hG, kk_warm hW2 hK, by rw [hU]; exact hB, tk_Z.at hZ hS hU hW2.alike⟩⟩ rfl hn hsize rfl (lv_room hW) hdg hf) hS (fun q _ h => hsub q h) hsub (fun r u t9 H1 locs1 ht hvm hw hBB hz1 hk1 hS1 => ?_)
  obtain ⟨hG1, hp1⟩ := hBB
  subst hw
  rw [ht] at hG1 hp1
  exact kk r H1 locs1 hp1 hG1 hS1 hk1
theorem tk_Vv {post : Heap → Prop} (S : CallFix p m c cc nL s args Ts own) (hK : kk_K D cy ld s) (hG : tk_G D cy ld t X H) {LA : List (Nat × Nat × Nat)} (hZ : tk_Z ld t s) (hS : va_S (tk_w t LA) s.heap H locs) {B : Heap → Prop} (hM : Met l y wsy rm (tp D cy ld t X (.ref b :: As) B) (tv D cy ld t X post (tk_w t L)) mc ms (tk_w t L)) (hB : B H) (cw : CallW R s args own C index y bytes maxL ret wsy rm mc ms n) (hb0 : t b = (ci + 1, nn, rr)) (hci : ci + 1 < 20) (hXb : b ∉ X) (hcl : vwCl[ci]? = some (C, T, N)) (hsub : ∀ q, tk_w t L q → tk_w t LA q) (hn : As.length = n) (hsize : ls.size = nL) (hst : st = As.reverse ++ .ref b :: rest) (hW : (rest.map fun v => v.category).sum ≤ 8) (hdg : decode cc pc = .ok (.invokevirtual index, 3)) (hf : cells + mc ≤ R.cells ∧ slots + ms ≤ R.slots)
    (kk : ∀ (H1 : Heap) (locs1 : List Loc), post H1 → tk_G D cy ld t X H1 → va_S (tk_w t LA) s.heap H1 locs1 → (∀ q : Nat, q < H.size → ¬ tk_w t L q → H1[q]? = H[q]?) → W p l e R s m args below meth c H1 locs1 (cells + mc) (slots + ms) Q (F0 m (pc + 3) ls (rest))) : W p l e R s m args below meth c H locs cells slots Q (F0 m pc ls st) := by
  subst hst
  obtain ⟨fs0, hat0, -⟩ := hG.obj hb0 hci hXb
  refine va_callv (va_runV (As := As) (rest := rest) S hM cw ⟨tp_blind, va_recv hK.1 (tk_one hat0) hcl (q0 := 0) rfl, fun U hU hW2 => ⟨rfl, by rw [hU]; exact hG, kk_warm hW2 hK, by rw [hU]; exact hB, tk_Z.at hZ hS hU hW2.alike⟩⟩ rfl hn hsize rfl (lv_room hW) hdg hf) hS (fun q _ h => hsub q h) hsub (fun u t9 H1 locs1 ht hvm hw hBB hz1 hk1 hS1 => ?_)
  obtain ⟨hG1, hp1⟩ := hBB
  rw [ht] at hG1 hp1
  exact kk H1 locs1 hp1 hG1 hS1 hk1
theorem tk_Vq {post : Option Nat → Heap → Prop} (S : CallFix p m c cc nL s args Ts own) (hK : kk_K D cy ld s) (hG : tk_G D cy ld t X H) {LA : List (Nat × Nat × Nat)} (hZ : tk_Z ld t s) (hS : va_S (tk_w t LA) s.heap H locs) {B : Heap → Prop} (hM : Met l y wsy rm (tp D cy ld t X (.ref b :: As) B) (tq D cy ld t X post (tk_w t L)) mc ms (tk_w t L)) (hB : B H) (cw : CallW R s args own C index y bytes maxL ret wsy rm mc ms n) (hb0 : t b = (ci + 1, nn, rr)) (hci : ci + 1 < 20) (hXb : b ∉ X) (hcl : vwCl[ci]? = some (C, T, N)) (hsub : ∀ q, tk_w t L q → tk_w t LA q) (hn : As.length = n) (hsize : ls.size = nL) (hst : st = As.reverse ++ .ref b :: rest) (hW : (rest.map fun v => v.category).sum ≤ 8) (hdg : decode cc pc = .ok (.invokevirtual index, 3)) (hf : cells + mc ≤ R.cells ∧ slots + ms ≤ R.slots)
    (kk : ∀ (r : Option Nat) (H1 : Heap) (locs1 : List Loc), post r H1 → tk_G D cy ld t X H1 → va_S (tk_w t LA) s.heap H1 locs1 → (∀ q : Nat, q < H.size → ¬ tk_w t L q → H1[q]? = H[q]?) → W p l e R s m args below meth c H1 locs1 (cells + mc) (slots + ms) Q (F0 m (pc + 3) ls (va_rf r :: rest))) : W p l e R s m args below meth c H locs cells slots Q (F0 m pc ls st) := by
  subst hst
  obtain ⟨fs0, hat0, -⟩ := hG.obj hb0 hci hXb
  refine va_callq (va_runV (As := As) (rest := rest) S hM cw ⟨tp_blind, va_recv hK.1 (tk_one hat0) hcl (q0 := 0) rfl, fun U hU hW2 => ⟨rfl, by rw [hU]; exact hG, kk_warm hW2 hK, by rw [hU]; exact hB, tk_Z.at hZ hS hU hW2.alike⟩⟩ rfl hn hsize rfl (lv_room hW) hdg hf) hS (fun q _ h => hsub q h) hsub (fun r u t9 H1 locs1 ht hvm hw hBB hz1 hk1 hS1 => ?_)
  obtain ⟨hG1, hp1⟩ := hBB
  subst hw
  rw [ht] at hG1 hp1
  exact kk r H1 locs1 hp1 hG1 hS1 hk1
theorem tk_Si {post : Int32 → Heap → Prop} (S : CallFix p m c cc nL s args Ts own) (hK : kk_K D cy ld s) (hG : tk_G D cy ld t X H) {LA : List (Nat × Nat × Nat)} (hZ : tk_Z ld t s) (hS : va_S (tk_w t LA) s.heap H locs) {B : Heap → Prop} (hM : Met l y wsy rm (tp D cy ld t X As B) (ti D cy ld t X post (tk_w t L)) mc ms (tk_w t L)) (hB : B H) (cw : CallB R s args own index y bytes maxL ret wsy rm mc ms n ∧ (Cond.static y).before args s = true) (hsub : ∀ q, tk_w t L q → tk_w t LA q) (hn : As.length = n) (hsize : ls.size = nL) (hst : st = As.reverse ++ rest) (hW : (rest.map fun v => v.category).sum ≤ 8) (hdg : decode cc pc = .ok (.invokestatic index, 3)) (hf : cells + mc ≤ R.cells ∧ slots + ms ≤ R.slots)
    (kk : ∀ (r : Int32) (H1 : Heap) (locs1 : List Loc), post r H1 → tk_G D cy ld t X H1 → va_S (tk_w t LA) s.heap H1 locs1 → (∀ q : Nat, q < H.size → ¬ tk_w t L q → H1[q]? = H[q]?) → W p l e R s m args below meth c H1 locs1 (cells + mc) (slots + ms) Q (F0 m (pc + 3) ls (.int r :: rest))) : W p l e R s m args below meth c H locs cells slots Q (F0 m pc ls st) := by
  subst hst
  refine va_calli (va_runS (As := As) (rest := rest) S hM cw ⟨tp_blind, fun U hU hW2 => ⟨rfl, by rw [hU]; exact hG, kk_warm hW2 hK, by rw [hU]; exact hB, tk_Z.at hZ hS hU hW2.alike⟩⟩ rfl hn hsize rfl (lv_room hW) hdg hf) hS (fun q _ h => hsub q h) hsub (fun r u t9 H1 locs1 ht hvm hw hBB hz1 hk1 hS1 => ?_)
  obtain ⟨hG1, hp1⟩ := hBB
  subst hw
  rw [ht] at hG1 hp1
  exact kk r H1 locs1 hp1 hG1 hS1 hk1
theorem tk_Sl {post : Int64 → Heap → Prop} (S : CallFix p m c cc nL s args Ts own) (hK : kk_K D cy ld s) (hG : tk_G D cy ld t X H) {LA : List (Nat × Nat × Nat)} (hZ : tk_Z ld t s) (hS : va_S (tk_w t LA) s.heap H locs) {B : Heap → Prop} (hM : Met l y wsy rm (tp D cy ld t X As B) (tl D cy ld t X post (tk_w t L)) mc ms (tk_w t L)) (hB : B H) (cw : CallB R s args own index y bytes maxL ret wsy rm mc ms n ∧ (Cond.static y).before args s = true) (hsub : ∀ q, tk_w t L q → tk_w t LA q) (hn : As.length = n) (hsize : ls.size = nL) (hst : st = As.reverse ++ rest) (hW : (rest.map fun v => v.category).sum ≤ 8) (hdg : decode cc pc = .ok (.invokestatic index, 3)) (hf : cells + mc ≤ R.cells ∧ slots + ms ≤ R.slots)
    (kk : ∀ (r : Int64) (H1 : Heap) (locs1 : List Loc), post r H1 → tk_G D cy ld t X H1 → va_S (tk_w t LA) s.heap H1 locs1 → (∀ q : Nat, q < H.size → ¬ tk_w t L q → H1[q]? = H[q]?) → W p l e R s m args below meth c H1 locs1 (cells + mc) (slots + ms) Q (F0 m (pc + 3) ls (.long r :: rest))) : W p l e R s m args below meth c H locs cells slots Q (F0 m pc ls st) := by
  subst hst
  refine va_calll (va_runS (As := As) (rest := rest) S hM cw ⟨tp_blind, fun U hU hW2 => ⟨rfl, by rw [hU]; exact hG, kk_warm hW2 hK, by rw [hU]; exact hB, tk_Z.at hZ hS hU hW2.alike⟩⟩ rfl hn hsize rfl (lv_room hW) hdg hf) hS (fun q _ h => hsub q h) hsub (fun r u t9 H1 locs1 ht hvm hw hBB hz1 hk1 hS1 => ?_)
  obtain ⟨hG1, hp1⟩ := hBB
  subst hw
  rw [ht] at hG1 hp1
  exact kk r H1 locs1 hp1 hG1 hS1 hk1
theorem tk_Sv {post : Heap → Prop} (S : CallFix p m c cc nL s args Ts own) (hK : kk_K D cy ld s) (hG : tk_G D cy ld t X H) {LA : List (Nat × Nat × Nat)} (hZ : tk_Z ld t s) (hS : va_S (tk_w t LA) s.heap H locs) {B : Heap → Prop} (hM : Met l y wsy rm (tp D cy ld t X As B) (tv D cy ld t X post (tk_w t L)) mc ms (tk_w t L)) (hB : B H) (cw : CallB R s args own index y bytes maxL ret wsy rm mc ms n ∧ (Cond.static y).before args s = true) (hsub : ∀ q, tk_w t L q → tk_w t LA q) (hn : As.length = n) (hsize : ls.size = nL) (hst : st = As.reverse ++ rest) (hW : (rest.map fun v => v.category).sum ≤ 8) (hdg : decode cc pc = .ok (.invokestatic index, 3)) (hf : cells + mc ≤ R.cells ∧ slots + ms ≤ R.slots)
    (kk : ∀ (H1 : Heap) (locs1 : List Loc), post H1 → tk_G D cy ld t X H1 → va_S (tk_w t LA) s.heap H1 locs1 → (∀ q : Nat, q < H.size → ¬ tk_w t L q → H1[q]? = H[q]?) → W p l e R s m args below meth c H1 locs1 (cells + mc) (slots + ms) Q (F0 m (pc + 3) ls (rest))) : W p l e R s m args below meth c H locs cells slots Q (F0 m pc ls st) := by
  subst hst
  refine va_callv (va_runS (As := As) (rest := rest) S hM cw ⟨tp_blind, fun U hU hW2 => ⟨rfl, by rw [hU]; exact hG, kk_warm hW2 hK, by rw [hU]; exact hB, tk_Z.at hZ hS hU hW2.alike⟩⟩ rfl hn hsize rfl (lv_room hW) hdg hf) hS (fun q _ h => hsub q h) hsub (fun u t9 H1 locs1 ht hvm hw hBB hz1 hk1 hS1 => ?_)
  obtain ⟨hG1, hp1⟩ := hBB
  rw [ht] at hG1 hp1
  exact kk H1 locs1 hp1 hG1 hS1 hk1
theorem tk_Sq {post : Option Nat → Heap → Prop} (S : CallFix p m c cc nL s args Ts own) (hK : kk_K D cy ld s) (hG : tk_G D cy ld t X H) {LA : List (Nat × Nat × Nat)} (hZ : tk_Z ld t s) (hS : va_S (tk_w t LA) s.heap H locs) {B : Heap → Prop} (hM : Met l y wsy rm (tp D cy ld t X As B) (tq D cy ld t X post (tk_w t L)) mc ms (tk_w t L)) (hB : B H) (cw : CallB R s args own index y bytes maxL ret wsy rm mc ms n ∧ (Cond.static y).before args s = true) (hsub : ∀ q, tk_w t L q → tk_w t LA q) (hn : As.length = n) (hsize : ls.size = nL) (hst : st = As.reverse ++ rest) (hW : (rest.map fun v => v.category).sum ≤ 8) (hdg : decode cc pc = .ok (.invokestatic index, 3)) (hf : cells + mc ≤ R.cells ∧ slots + ms ≤ R.slots)
    (kk : ∀ (r : Option Nat) (H1 : Heap) (locs1 : List Loc), post r H1 → tk_G D cy ld t X H1 → va_S (tk_w t LA) s.heap H1 locs1 → (∀ q : Nat, q < H.size → ¬ tk_w t L q → H1[q]? = H[q]?) → W p l e R s m args below meth c H1 locs1 (cells + mc) (slots + ms) Q (F0 m (pc + 3) ls (va_rf r :: rest))) : W p l e R s m args below meth c H locs cells slots Q (F0 m pc ls st) := by
  subst hst
  refine va_callq (va_runS (As := As) (rest := rest) S hM cw ⟨tp_blind, fun U hU hW2 => ⟨rfl, by rw [hU]; exact hG, kk_warm hW2 hK, by rw [hU]; exact hB, tk_Z.at hZ hS hU hW2.alike⟩⟩ rfl hn hsize rfl (lv_room hW) hdg hf) hS (fun q _ h => hsub q h) hsub (fun r u t9 H1 locs1 ht hvm hw hBB hz1 hk1 hS1 => ?_)
  obtain ⟨hG1, hp1⟩ := hBB
  subst hw
  rw [ht] at hG1 hp1
  exact kk r H1 locs1 hp1 hG1 hS1 hk1
theorem tk_Ni {post : Int32 → Heap → Prop} {host : String} (S : CallFix p m c cc nL s args Ts own) (hK : kk_K D cy ld s) (hG : tk_G D cy ld t X H) {LA : List (Nat × Nat × Nat)} (hZ : tk_Z ld t s) (hS : va_S (tk_w t LA) s.heap H locs) {B : Heap → Prop} (hM : Met l y wsy rm (tp D cy ld t X As B) (ti D cy ld t X post (tk_w t L)) mc ms (tk_w t L)) (hB : B H) (cw : va_CN R s args own index y host bytes maxL ret wsy rm mc ms n ∧ (Cond.static y).before args s = true ∧ True) (hsub : ∀ q, tk_w t L q → tk_w t LA q) (hn : As.length = n) (hsize : ls.size = nL) (hst : st = As.reverse ++ rest) (hW : (rest.map fun v => v.category).sum ≤ 8) (hdg : decode cc pc = .ok (.invokestatic index, 3)) (hf : cells + mc ≤ R.cells ∧ slots + ms ≤ R.slots)
    (kk : ∀ (r : Int32) (H1 : Heap) (locs1 : List Loc), post r H1 → tk_G D cy ld t X H1 → va_S (tk_w t LA) s.heap H1 locs1 → (∀ q : Nat, q < H.size → ¬ tk_w t L q → H1[q]? = H[q]?) → W p l e R s m args below meth c H1 locs1 (cells + mc) (slots + ms) Q (F0 m (pc + 3) ls (.int r :: rest))) : W p l e R s m args below meth c H locs cells slots Q (F0 m pc ls st) := by
  subst hst
  refine va_calli (va_runSN (As := As) (rest := rest) S hM cw ⟨tp_blind, fun U hU hW2 => ⟨rfl, by rw [hU]; exact hG, kk_warm hW2 hK, by rw [hU]; exact hB, tk_Z.at hZ hS hU hW2.alike⟩⟩ rfl hn hsize rfl (lv_room hW) hdg hf) hS (fun q _ h => hsub q h) hsub (fun r u t9 H1 locs1 ht hvm hw hBB hz1 hk1 hS1 => ?_)
  obtain ⟨hG1, hp1⟩ := hBB
  subst hw
  rw [ht] at hG1 hp1
  exact kk r H1 locs1 hp1 hG1 hS1 hk1
theorem tk_Nv {post : Heap → Prop} {host : String} (S : CallFix p m c cc nL s args Ts own) (hK : kk_K D cy ld s) (hG : tk_G D cy ld t X H) {LA : List (Nat × Nat × Nat)} (hZ : tk_Z ld t s) (hS : va_S (tk_w t LA) s.heap H locs) {B : Heap → Prop} (hM : Met l y wsy rm (tp D cy ld t X As B) (tv D cy ld t X post (tk_w t L)) mc ms (tk_w t L)) (hB : B H) (cw : va_CN R s args own index y host bytes maxL ret wsy rm mc ms n ∧ (Cond.static y).before args s = true ∧ True) (hsub : ∀ q, tk_w t L q → tk_w t LA q) (hn : As.length = n) (hsize : ls.size = nL) (hst : st = As.reverse ++ rest) (hW : (rest.map fun v => v.category).sum ≤ 8) (hdg : decode cc pc = .ok (.invokestatic index, 3)) (hf : cells + mc ≤ R.cells ∧ slots + ms ≤ R.slots)
    (kk : ∀ (H1 : Heap) (locs1 : List Loc), post H1 → tk_G D cy ld t X H1 → va_S (tk_w t LA) s.heap H1 locs1 → (∀ q : Nat, q < H.size → ¬ tk_w t L q → H1[q]? = H[q]?) → W p l e R s m args below meth c H1 locs1 (cells + mc) (slots + ms) Q (F0 m (pc + 3) ls (rest))) : W p l e R s m args below meth c H locs cells slots Q (F0 m pc ls st) := by
  subst hst
  refine va_callv (va_runSN (As := As) (rest := rest) S hM cw ⟨tp_blind, fun U hU hW2 => ⟨rfl, by rw [hU]; exact hG, kk_warm hW2 hK, by rw [hU]; exact hB, tk_Z.at hZ hS hU hW2.alike⟩⟩ rfl hn hsize rfl (lv_room hW) hdg hf) hS (fun q _ h => hsub q h) hsub (fun u t9 H1 locs1 ht hvm hw hBB hz1 hk1 hS1 => ?_)
  obtain ⟨hG1, hp1⟩ := hBB
  rw [ht] at hG1 hp1
  exact kk H1 locs1 hp1 hG1 hS1 hk1
theorem tk_iret {post : Int32 → Heap → Prop} {v : Int32} {ty : FieldType} (hx : p.tables.exec = Jvm.exec) (hb : c.code = cc) (hr : meth.sig.returnType = some ty) (hty : narrow ty (.int v) = .int v) (hlocks : meth.locks = false) (hpost : post v H) (hG : tk_G D cy ld t X H) (hS : va_S A s.heap H locs) (hdg : decode cc pc = .ok (.ireturn, 1)) :
    W p l e R s m args below meth c H locs cells slots (MQ below (ti D cy ld t X post A) args s cells slots A) (F0 m pc ls [.int v]) :=
  W.zret hx hb hr hty (fun t9 ht _ => ⟨⟨v, v, rfl, rfl, by show tk_G D cy ld t X t9.heap ∧ post v t9.heap; rw [ht]; exact ⟨hG, hpost⟩⟩, hS.F ht⟩) hS.2.2 hdg hlocks
theorem tk_lret {post : Int64 → Heap → Prop} {v : Int64} (hx : p.tables.exec = Jvm.exec) (hb : c.code = cc) (hr : meth.sig.returnType = some .long) (hlocks : meth.locks = false) (hpost : post v H) (hG : tk_G D cy ld t X H) (hS : va_S A s.heap H locs) (hdg : decode cc pc = .ok (.lreturn, 1)) :
    W p l e R s m args below meth c H locs cells slots (MQ below (tl D cy ld t X post A) args s cells slots A) (F0 m pc ls [.long v]) :=
  W.lret hx hb hr (fun t9 ht _ => ⟨⟨v, v, rfl, rfl, by show tk_G D cy ld t X t9.heap ∧ post v t9.heap; rw [ht]; exact ⟨hG, hpost⟩⟩, hS.F ht⟩) hS.2.2 hdg hlocks
theorem tk_vret {post : Heap → Prop} (hx : p.tables.exec = Jvm.exec) (hb : c.code = cc) (hr : meth.sig.returnType = none) (hlocks : meth.locks = false) (hpost : post H) (hG : tk_G D cy ld t X H) (hS : va_S A s.heap H locs) (hdg : decode cc pc = .ok (.return_, 1)) :
    W p l e R s m args below meth c H locs cells slots (MQ below (tv D cy ld t X post A) args s cells slots A) (F0 m pc ls []) :=
  W.vret hx hb hr (fun t9 ht _ => ⟨⟨(), rfl, trivial, by show tk_G D cy ld t X t9.heap ∧ post t9.heap; rw [ht]; exact ⟨hG, hpost⟩⟩, hS.F ht⟩) hS.2.2 hdg hlocks
theorem tk_qret {post : Option Nat → Heap → Prop} {o : Option Nat} {v : Value} {rt : FieldType} (hx : p.tables.exec = Jvm.exec) (hb : c.code = cc) (hr : meth.sig.returnType = some rt) (hrt : (∃ n, rt = .object n) ∨ ∃ t, rt = .array t) (hv : v = va_rf o) (hlocks : meth.locks = false) (hpost : post o H) (hG : tk_G D cy ld t X H) (hS : va_S A s.heap H locs) (hdg : decode cc pc = .ok (.areturn, 1)) :
    W p l e R s m args below meth c H locs cells slots (MQ below (tq D cy ld t X post A) args s cells slots A) (F0 m pc ls [v]) := by
  subst hv
  exact W.aret hx hb hr hrt (by cases o with
    | none => exact Or.inl rfl
    | some a => exact Or.inr ⟨a, rfl⟩) (fun t9 ht _ => ⟨⟨o, o, rfl, rfl, by show tk_G D cy ld t X t9.heap ∧ post o t9.heap; rw [ht]; exact ⟨hG, hpost⟩⟩, hS.F ht⟩) hS.2.2 hdg hlocks
theorem tk_add {x y : Int32} {I J : Int} (hx : x.toInt = I) (hy : y.toInt = J) (h1 : -2147483648 ≤ I + J) (h2 : I + J ≤ 2147483647) (kk : ∀ z : Int32, z.toInt = I + J → W p l e R s m args below meth c H locs cells slots Q (F0 m pc ls (.int z :: rest))) : W p l e R s m args below meth c H locs cells slots Q (F0 m pc ls (.int (x + y) :: rest)) := kk _ (by rw [Int32.toInt_add, hx, hy]; exact tk_bm h1 h2)
theorem tk_ladd {x y : Int64} {I J : Int} (hx : x.toInt = I) (hy : y.toInt = J) (h1 : -9223372036854775808 ≤ I + J) (h2 : I + J ≤ 9223372036854775807) (kk : ∀ z : Int64, z.toInt = I + J → W p l e R s m args below meth c H locs cells slots Q (F0 m pc ls (.long z :: rest))) : W p l e R s m args below meth c H locs cells slots Q (F0 m pc ls (.long (x + y) :: rest)) := kk _ (by rw [Int64.toInt_add, hx, hy]; exact tk_bmL h1 h2)
theorem tk_sub {x y : Int32} {I J : Int} (hx : x.toInt = I) (hy : y.toInt = J) (h1 : -2147483648 ≤ I - J) (h2 : I - J ≤ 2147483647) (kk : ∀ z : Int32, z.toInt = I - J → W p l e R s m args below meth c H locs cells slots Q (F0 m pc ls (.int z :: rest))) : W p l e R s m args below meth c H locs cells slots Q (F0 m pc ls (.int (x - y) :: rest)) := kk _ (by rw [Int32.toInt_sub, hx, hy]; exact tk_bm h1 h2)
theorem tk_lsub {x y : Int64} {I J : Int} (hx : x.toInt = I) (hy : y.toInt = J) (h1 : -9223372036854775808 ≤ I - J) (h2 : I - J ≤ 9223372036854775807) (kk : ∀ z : Int64, z.toInt = I - J → W p l e R s m args below meth c H locs cells slots Q (F0 m pc ls (.long z :: rest))) : W p l e R s m args below meth c H locs cells slots Q (F0 m pc ls (.long (x - y) :: rest)) := kk _ (by rw [Int64.toInt_sub, hx, hy]; exact tk_bmL h1 h2)
theorem tk_mul {x y : Int32} {I J : Int} (hx : x.toInt = I) (hy : y.toInt = J) (h1 : -2147483648 ≤ I * J) (h2 : I * J ≤ 2147483647) (kk : ∀ z : Int32, z.toInt = I * J → W p l e R s m args below meth c H locs cells slots Q (F0 m pc ls (.int z :: rest))) : W p l e R s m args below meth c H locs cells slots Q (F0 m pc ls (.int (x * y) :: rest)) := kk _ (by rw [Int32.toInt_mul, hx, hy]; exact tk_bm h1 h2)
theorem tk_lmul {x y : Int64} {I J : Int} (hx : x.toInt = I) (hy : y.toInt = J) (h1 : -9223372036854775808 ≤ I * J) (h2 : I * J ≤ 9223372036854775807) (kk : ∀ z : Int64, z.toInt = I * J → W p l e R s m args below meth c H locs cells slots Q (F0 m pc ls (.long z :: rest))) : W p l e R s m args below meth c H locs cells slots Q (F0 m pc ls (.long (x * y) :: rest)) := kk _ (by rw [Int64.toInt_mul, hx, hy]; exact tk_bmL h1 h2)
theorem tk_neg {x : Int32} {I : Int} (hx : x.toInt = I) (h1 : -2147483647 ≤ I) (h2 : I ≤ 2147483647) (kk : ∀ z : Int32, z.toInt = -I → W p l e R s m args below meth c H locs cells slots Q (F0 m pc ls (.int z :: rest))) : W p l e R s m args below meth c H locs cells slots Q (F0 m pc ls (.int (-x) :: rest)) := kk _ (by rw [Int32.toInt_neg, hx]; exact tk_bm (by omega) (by omega))
theorem tk_any {x : Int32} (kk : ∀ z : Int32, W p l e R s m args below meth c H locs cells slots Q (F0 m pc ls (.int z :: rest))) : W p l e R s m args below meth c H locs cells slots Q (F0 m pc ls (.int x :: rest)) := kk x
theorem tk_anyl {x : Int64} (kk : ∀ z : Int64, W p l e R s m args below meth c H locs cells slots Q (F0 m pc ls (.long z :: rest))) : W p l e R s m args below meth c H locs cells slots Q (F0 m pc ls (.long x :: rest)) := kk x
theorem tk_say {x : Int32} {P : Int32 → Prop} (h : P x) (kk : ∀ z : Int32, P z → W p l e R s m args below meth c H locs cells slots Q (F0 m pc ls (.int z :: rest))) : W p l e R s m args below meth c H locs cells slots Q (F0 m pc ls (.int x :: rest)) := kk x h
theorem tk_sayl {x : Int64} {P : Int64 → Prop} (h : P x) (kk : ∀ z : Int64, P z → W p l e R s m args below meth c H locs cells slots Q (F0 m pc ls (.long z :: rest))) : W p l e R s m args below meth c H locs cells slots Q (F0 m pc ls (.long x :: rest)) := kk x h
end TKB
section TKC
variable {l : Launch} {D : va_G} {cy : Nat → ClassId} {ld : Nat → Nat} {y : MethodName} {cc : ByteArray} {maxL mc ms : Nat} {ret : Option FieldType} {rm : Room} {av : List Value} {t : tk_T} {X : List Nat} {B : Heap → Prop}
theorem tk_met (QC : Array Value → State → Outcome → State → Prop) (A : Nat → Prop) (hy : plainName y.cls = true) (hlen : (lg_sl av).length ≤ maxL)
    (body : ∀ (p : Program) (e : Env) (s : State) (m : MethodId) (args : Array Value) (below : List Frame) (meth : Method) (c : Code), p.tables.exec = Jvm.exec → c.code = cc → meth.sig.returnType = ret → c.maxLocals = maxL → (∀ w ∈ wl y cc maxL ret, w.before args s = true) → (∀ w ∈ wsA, w.before args s = true) → s.vm.findClass y.cls = some m.cls → meth.locks = false → kk_K D cy ld s → ∀ (H : Heap) (locs : List Loc), H = s.heap → tk_G D cy ld t X H → va_S A s.heap H locs → B H → tk_Z ld t s → ∀ ls : Array Slot, lv_has ls maxL (lv_args 0 av) →
      W p l e rm s m args below meth c H locs 0 0 (MQ below QC args s mc ms A) (F0 m 0 ls [])) : Met l y (wl y cc maxL ret) rm (tp D cy ld t X av B) QC mc ms A := by
  refine Met.ofW (cc := cc) (maxL := maxL) (ret := ret) hy rfl ?_
  intro p e s m args below meth c s₁ B hml hv
  obtain ⟨rfl, hG, hK, hB, hZ⟩ := hv
  have hts := atoms_spec (ws := wl y cc maxL ret) B.pre
  have hl := lv_entry av (n := maxL) hlen
  rw [lg_entry_eq]
  exact body p e s m _ below meth c B.exec B.bytes B.returns hml hts (fun w hw => hts w (List.mem_cons_of_mem _ hw)) (findClass_of_methodNamed B.named) B.notSynchronized hK s.heap [] rfl hG va_S.rf hB hZ _ hl
end TKC
theorem tk_w.pick {t : tk_T} {L L' : List (Nat × Nat × Nat)} (is : List Nat) (h : is.map (fun i => L[i]?) = L'.map some) : ∀ a, tk_w t L' a → tk_w t L a := by sorry
theorem tk_peek {D : va_G} {cy : Nat → ClassId} {ld : Nat → Nat} {t : tk_T} {X : List Nat} {H : Heap} {a ci nn rr : Nat} {C : String} {T : u_T} {N : Nat} {sp : tk_S} (hG : tk_G D cy ld t X H) (ha : t a = (ci + 1, nn, rr)) (hci : ci + 1 < 20) (hX : a ∉ X) (hc : vwCl[ci]? = some (C, T, N)) (k : Nat) (hk : k < N) (hsp : (tk_F (ci + 1))[k]? = some sp) : ∃ v : Value, tk_f D H a ci k v ∧ tk_V ld t nn rr sp v := by sorry
theorem tk_rngL (x : Int64) : -9223372036854775808 ≤ x.toInt ∧ x.toInt ≤ 9223372036854775807 := ⟨Int64.le_toInt x, Int64.toInt_le x⟩
theorem tk_nz {x : Int32} (h0 : 0 ≤ x.toInt) (h1 : x.toInt ≤ 1) : narrow .boolean (.int x) = .int x := by sorry
theorem tk_fz {x : Int32} (h0 : 0 ≤ x.toInt) (h1 : x.toInt ≤ 1) : fits .boolean (.int x) = true := by sorry
theorem tk_inc (x : Int32) (n : Int) (hn : (Int32.ofInt n).toInt = n) (h1 : -2147483648 ≤ x.toInt + n) (h2 : x.toInt + n ≤ 2147483647) : ∃ z : Int32, z.toInt = x.toInt + n ∧ x + Int32.ofInt n = z := ⟨_, by rw [Int32.toInt_add, hn]; exact tk_bm h1 h2, rfl⟩
theorem tk_rem {x y : Int32} {I J : Int} (hx : x.toInt = I) (hy : y.toInt = J) (h0 : 0 ≤ I) (h1 : 1 ≤ J) : 0 ≤ (x - x / y * y).toInt ∧ (x - x / y * y).toInt < J := by sorry
theorem tk_remL {x y : Int64} {I J : Int} (hx : x.toInt = I) (hy : y.toInt = J) (h0 : 0 ≤ I) (h1 : 1 ≤ J) : 0 ≤ (x - x / y * y).toInt ∧ (x - x / y * y).toInt < J := by sorry
theorem tk_and (x : Int32) {m : Int32} {M : Int} (k : Nat) (hm : m.toBitVec.toNat = 2 ^ k - 1) (hk : k < 31 ∧ ((2 ^ k - 1 : Nat) : Int) = M) : 0 ≤ (x &&& m).toInt ∧ (x &&& m).toInt ≤ M := by sorry
theorem tk_shl1 (y : Int32) (h0 : 0 ≤ y.toInt) (h1 : y.toInt ≤ 10) : 1 ≤ ((1 : Int32) <<< (y &&& 31)).toInt ∧ ((1 : Int32) <<< (y &&& 31)).toInt ≤ 1024 := by sorry
theorem tk_l2i {x : Int64} (h1 : -2147483648 ≤ x.toInt) (h2 : x.toInt ≤ 2147483647) : x.toInt32.toInt = x.toInt := by sorry
theorem tk_min {x y : Int32} {I J : Int} (hx : x.toInt = I) (hy : y.toInt = J) : (if y < x then y else x).toInt ≤ I ∧ (if y < x then y else x).toInt ≤ J ∧ ((if y < x then y else x).toInt = I ∨ (if y < x then y else x).toInt = J) := by sorry
theorem tk_max {x y : Int32} {I J : Int} (hx : x.toInt = I) (hy : y.toInt = J) : I ≤ (if x < y then y else x).toInt ∧ J ≤ (if x < y then y else x).toInt ∧ ((if x < y then y else x).toInt = I ∨ (if x < y then y else x).toInt = J) := by sorry
section TKD
variable {p : Program} {l : Launch} {e : Env} {R : Room} {s : State} {m : MethodId} {args : Array Value} {below : List Frame} {meth : Method} {c : Code} {H : Heap} {locs : List Loc} {cells slots : Nat} {Q : State → Prop}
variable {pc : Nat} {ls : Array Slot} {rest st : List Value} {A : Nat → Prop} {H0 : Heap} {D : va_G} {cy : Nat → ClassId} {ld : Nat → Nat} {C : String} {cc : ByteArray} {a nn rr : Nat} {t : tk_T} {X : List Nat}
theorem tk_aastN (hx : p.tables.exec = Jvm.exec) (hb : c.code = cc) (hK : kk_K D cy ld s) (hG : tk_G D cy ld t X H) (hS : va_S A H0 H locs) {k : Nat} (cx : Nat) (ht : (tys0 cy)[cx]? = some (cy cx, .object C)) (ha : t a = (k, nn, rr)) (hk : 20 ≤ k) (hkA : ∀ e : va_E, tk_A cy ld t k nn rr e ↔ ∃ f : Nat → Option Nat, e = .inl (cy cx, nn, .inr (.inr (.inr (.inr f)))) ∧ ∀ j : Nat, j < nn → tk_R ld t k rr j (f j)) (hX : a ∉ X) {i : Int32} {I : Int} (hi : i.toInt = I) (h0 : 0 ≤ I) (h1 : I < (nn : Int)) (hR : tk_R ld t k rr i.toNatClampNeg none) (hA : A a) (hdg : decode cc pc = .ok (.aastore, 1))
    (kk : ∀ (H1 : Heap) (locs1 : List Loc), tk_G D cy ld t X H1 → va_S A H0 H1 locs1 → (∀ q : Nat, q ≠ a → H1[q]? = H[q]?) → W p l e R s m args below meth c H1 locs1 cells slots Q (F0 m (pc + 1) ls rest)) : W p l e R s m args below meth c H locs cells slots Q (F0 m pc ls (.null :: .int i :: .ref a :: rest)) := by
  obtain ⟨e, h2, h3⟩ := hG.arr ha hk hX
  obtain ⟨f, rfl, hf⟩ := (hkA e).mp h3
  obtain ⟨hv, hlt⟩ := tk_idx hi h0 h1
  refine va_WaastN hx hb h2 ((hK.1.2 cx _ ht).1 nn (fun j => va_rf (f j))) (fun q => by cases q) (by show ¬ (i < 0 ∨ (arrV _ _ _).slots.size ≤ _); rw [arrV_size]; exact hv) rfl rfl hdg fun H1 e z oq => ?_
  refine kk H1 _ (hG.put (e := .inl (cy cx, nn, .inr (.inr (.inr (.inr (va_up f i.toNatClampNeg none)))))) ?_ ?_ oq) (hS.put z oq hA) oq
  · show H1[a]? = some (vp_cell _ _)
    rw [e]
    rw [vp_cell_q, vp_cell_q, arrV_store]
    congr 2
    funext q
    by_cases hq : q = i.toNatClampNeg
    · subst hq
      simp [updV, va_up, va_rf]
    · simp [updV, va_up, hq]
  · rw [ha]
    show tk_O cy ld t k nn rr _
    unfold tk_O
    rw [if_neg (Nat.not_lt.mpr hk)]
    refine (hkA _).mpr ⟨_, rfl, fun j hj => ?_⟩
    by_cases hq : j = i.toNatClampNeg
    · subst hq
      unfold va_up
      rw [if_pos rfl]
      exact hR
    · unfold va_up
      rw [if_neg hq]
      exact hf j hj
end TKD
theorem tk_i2c {x : Int32} (h0 : 0 ≤ x.toInt) (h1 : x.toInt ≤ 255) : ∃ z : Int32, (x.toUInt32 % 65536).toInt32 = z ∧ z.toInt = x.toInt := by sorry
theorem tk_nc {x : Int32} (h0 : 0 ≤ x.toInt) (h1 : x.toInt ≤ 255) : narrow .char (.int x) = .int x := by sorry
theorem tk_op9 {D : va_G} {cy : Nat → ClassId} {ld : Nat → Nat} {t : tk_T} {H : Heap} {a nn rr : Nat} (hG : tk_G D cy ld t [] H) (ha : t a = (10, nn, rr)) : ∃ (x0 : Nat) (x1 : Nat) (x2 : Nat) (x3 : Nat) (x4 : Int32) (x5 : Int32) (x6 : Int32) (x7 : Int32) (x8 : Int32) (x9 : Int32) (x10 : Int32), va_at D vwCl (a, .inr (9, [.ref x0, .ref x1, .ref x2, .ref x3, .int x4, .int x5, .int x6, .int x7, .int x8, .int x9, .int x10])) H ∧ t x0 = (20, 8, rr) ∧ t x1 = (20, 8, rr) ∧ t x2 = (20, 8, rr) ∧ t x3 = (20, 2, rr) ∧ (-2147483648) ≤ x4.toInt ∧ x4.toInt ≤ 2147483647 ∧ (-1) ≤ x5.toInt ∧ x5.toInt ≤ 7 ∧ (-1) ≤ x6.toInt ∧ x6.toInt ≤ 7 ∧ (-2147483648) ≤ x7.toInt ∧ x7.toInt ≤ 2147483647 ∧ (-2147483648) ≤ x8.toInt ∧ x8.toInt ≤ 2147483647 ∧ 0 ≤ x9.toInt ∧ x9.toInt ≤ 1 ∧ (-2147483648) ≤ x10.toInt ∧ x10.toInt ≤ 2147483647 ∧ (x5.toInt ≠ -1 → x6.toInt ≠ -1) := by sorry
theorem tk_cl9 {D : va_G} {cy : Nat → ClassId} {ld : Nat → Nat} {t : tk_T} {H : Heap} {a nn rr : Nat} {x0 : Nat} {x1 : Nat} {x2 : Nat} {x3 : Nat} {x4 : Int32} {x5 : Int32} {x6 : Int32} {x7 : Int32} {x8 : Int32} {x9 : Int32} {x10 : Int32} (hG : tk_G D cy ld t [a] H) (ha : t a = (10, nn, rr)) (hat : va_at D vwCl (a, .inr (9, [.ref x0, .ref x1, .ref x2, .ref x3, .int x4, .int x5, .int x6, .int x7, .int x8, .int x9, .int x10])) H) (h0 : t x0 = (20, 8, rr)) (h1 : t x1 = (20, 8, rr)) (h2 : t x2 = (20, 8, rr)) (h3 : t x3 = (20, 2, rr)) (h4 : (-2147483648) ≤ x4.toInt) (h5 : x4.toInt ≤ 2147483647) (h6 : (-1) ≤ x5.toInt) (h7 : x5.toInt ≤ 7) (h8 : (-1) ≤ x6.toInt) (h9 : x6.toInt ≤ 7) (h10 : (-2147483648) ≤ x7.toInt) (h11 : x7.toInt ≤ 2147483647) (h12 : (-2147483648) ≤ x8.toInt) (h13 : x8.toInt ≤ 2147483647) (h14 : 0 ≤ x9.toInt) (h15 : x9.toInt ≤ 1) (h16 : (-2147483648) ≤ x10.toInt) (h17 : x10.toInt ≤ 2147483647) (hx : (x5.toInt ≠ -1 → x6.toInt ≠ -1)) : tk_G D cy ld t [] H := by sorry
theorem tk_op6 {D : va_G} {cy : Nat → ClassId} {ld : Nat → Nat} {t : tk_T} {H : Heap} {a nn rr : Nat} (hG : tk_G D cy ld t [] H) (ha : t a = (7, nn, rr)) : ∃ (x0 : Nat) (x2 : Int32) (x3 : Int32) (x4 : Int32) (x5 : Int32) (x6 : Int32) (x7 : Int32) (x8 : Int32) (x9 : Int32) (x10 : Int32), va_at D vwCl (a, .inr (6, [.ref x0, .ref (ld 26), .int x2, .int x3, .int x4, .int x5, .int x6, .int x7, .int x8, .int x9, .int x10])) H ∧ t x0 = (8, 512, 12) ∧ t (ld 26) = (20, 400, 9) ∧ 0 ≤ x2.toInt ∧ x2.toInt ≤ 400 ∧ 0 ≤ x3.toInt ∧ x3.toInt ≤ 1 ∧ 0 ≤ x4.toInt ∧ x4.toInt ≤ 400 ∧ 0 ≤ x5.toInt ∧ x5.toInt ≤ 400 ∧ (-2147483648) ≤ x6.toInt ∧ x6.toInt ≤ 2147483647 ∧ (-2147483648) ≤ x7.toInt ∧ x7.toInt ≤ 2147483647 ∧ (-2147483648) ≤ x8.toInt ∧ x8.toInt ≤ 2147483647 ∧ 0 ≤ x9.toInt ∧ x9.toInt ≤ 8 ∧ (-2147483648) ≤ x10.toInt ∧ x10.toInt ≤ 2147483647 ∧ (x6.toInt ≠ 0 → x4.toInt ≤ 399) := by sorry
theorem tk_cl6 {D : va_G} {cy : Nat → ClassId} {ld : Nat → Nat} {t : tk_T} {H : Heap} {a nn rr : Nat} {x0 : Nat} {x2 : Int32} {x3 : Int32} {x4 : Int32} {x5 : Int32} {x6 : Int32} {x7 : Int32} {x8 : Int32} {x9 : Int32} {x10 : Int32} (hG : tk_G D cy ld t [a] H) (ha : t a = (7, nn, rr)) (hat : va_at D vwCl (a, .inr (6, [.ref x0, .ref (ld 26), .int x2, .int x3, .int x4, .int x5, .int x6, .int x7, .int x8, .int x9, .int x10])) H) (h0 : t x0 = (8, 512, 12)) (h1 : t (ld 26) = (20, 400, 9)) (h2 : 0 ≤ x2.toInt) (h3 : x2.toInt ≤ 400) (h4 : 0 ≤ x3.toInt) (h5 : x3.toInt ≤ 1) (h6 : 0 ≤ x4.toInt) (h7 : x4.toInt ≤ 400) (h8 : 0 ≤ x5.toInt) (h9 : x5.toInt ≤ 400) (h10 : (-2147483648) ≤ x6.toInt) (h11 : x6.toInt ≤ 2147483647) (h12 : (-2147483648) ≤ x7.toInt) (h13 : x7.toInt ≤ 2147483647) (h14 : (-2147483648) ≤ x8.toInt) (h15 : x8.toInt ≤ 2147483647) (h16 : 0 ≤ x9.toInt) (h17 : x9.toInt ≤ 8) (h18 : (-2147483648) ≤ x10.toInt) (h19 : x10.toInt ≤ 2147483647) (hx : (x6.toInt ≠ 0 → x4.toInt ≤ 399)) : tk_G D cy ld t [] H := by sorry
theorem tk_snd {D : va_G} {cy : Nat → ClassId} {ld : Nat → Nat} {t : tk_T} {X : List Nat} {H : Heap} {a nn rr : Nat} {x y : Int32} (hG : tk_G D cy ld t X H) (ha : t a = (10, nn, rr)) (hX : a ∉ X) (h5 : tk_f D H a 9 5 (.int x)) (h6 : tk_f D H a 9 6 (.int y)) : x.toInt ≠ -1 → y.toInt ≠ -1 := by sorry
theorem tk_plc {D : va_G} {cy : Nat → ClassId} {ld : Nat → Nat} {t : tk_T} {X : List Nat} {H : Heap} {a nn rr : Nat} {x y : Int32} (hG : tk_G D cy ld t X H) (ha : t a = (7, nn, rr)) (hX : a ∉ X) (h4 : tk_f D H a 6 4 (.int x)) (h6 : tk_f D H a 6 6 (.int y)) : y.toInt ≠ 0 → x.toInt ≤ 399 := by sorry
theorem tk_X8 {D : va_G} {cy : Nat → ClassId} {ld : Nat → Nat} {t : tk_T} {X : List Nat} {H : Heap} {a nn rr : Nat} (hG : tk_G D cy ld t X H) (ha : t a = (8, nn, rr)) (hX : a ∉ X) : nn ≤ 512 ∧ rr ≤ 12 := by sorry
theorem tk_X10 {nn rr k : Nat} {v : Value} {fs : List Value} (h : tk_X 10 nn rr fs) (h5 : k ≠ 5) (h6 : k ≠ 6) : tk_X 10 nn rr (fs.set k v) := fun x y e1 e2 => by
  rw [List.getElem?_set_ne h5] at e1
  rw [List.getElem?_set_ne h6] at e2
  exact h x y e1 e2
theorem tk_X7 {nn rr k : Nat} {v : Value} {fs : List Value} (h : tk_X 7 nn rr fs) (h4 : k ≠ 4) (h6 : k ≠ 6) : tk_X 7 nn rr (fs.set k v) := fun x y e1 e2 => by
  rw [List.getElem?_set_ne h4] at e1
  rw [List.getElem?_set_ne h6] at e2
  exact h x y e1 e2
theorem tk_V0 {ld : Nat → Nat} {t : tk_T} {n r : Nat} {lo hi z : Int} {x : Int32} (h1 : lo ≤ x.toInt) (h2 : x.toInt ≤ hi) : tk_V ld t n r (0, lo, hi, z) (.int x) := ⟨x, rfl, h1, h2⟩
theorem tk_V4 {ld : Nat → Nat} {t : tk_T} {n r : Nat} {lo hi z : Int} {x : Int32} (h1 : lo ≤ x.toInt) (h2 : x.toInt ≤ n) : tk_V ld t n r (4, lo, hi, z) (.int x) := ⟨x, rfl, h1, h2⟩
theorem tk_V5 {ld : Nat → Nat} {t : tk_T} {n r : Nat} {lo hi z : Int} {x : Int32} (h1 : lo ≤ x.toInt) (h2 : x.toInt ≤ r) : tk_V ld t n r (5, lo, hi, z) (.int x) := ⟨x, rfl, h1, h2⟩
theorem tk_V7 {ld : Nat → Nat} {t : tk_T} {n r : Nat} {lo hi z : Int} {x : Int64} (h1 : lo ≤ x.toInt) (h2 : x.toInt ≤ hi) : tk_V ld t n r (7, lo, hi, z) (.long x) := ⟨x, rfl, h1, h2⟩

end

section
theorem dJ7_fill_53178_0 : decode cJ7_fill_53178 0 = .ok (.iconst 0, 1) := sorry
theorem dJ7_fill_53178_1 : decode cJ7_fill_53178 1 = .ok (.istore_n 2, 1) := sorry
theorem dJ7_fill_53178_2 : decode cJ7_fill_53178 2 = .ok (.aload_n 0, 1) := sorry
theorem dJ7_fill_53178_3 : decode cJ7_fill_53178 3 = .ok (.arraylength, 1) := sorry
theorem dJ7_fill_53178_4 : decode cJ7_fill_53178 4 = .ok (.istore_n 3, 1) := sorry
theorem dJ7_fill_53178_5 : decode cJ7_fill_53178 5 = .ok (.iload_n 2, 1) := sorry
theorem dJ7_fill_53178_6 : decode cJ7_fill_53178 6 = .ok (.iload_n 3, 1) := sorry
theorem dJ7_fill_53178_7 : decode cJ7_fill_53178 7 = .ok (.if_icmp .ge 13, 3) := sorry
theorem dJ7_fill_53178_20 : decode cJ7_fill_53178 20 = .ok (.return_, 1) := sorry
theorem dJ7_fill_53178_10 : decode cJ7_fill_53178 10 = .ok (.aload_n 0, 1) := sorry
theorem dJ7_fill_53178_11 : decode cJ7_fill_53178 11 = .ok (.iload_n 2, 1) := sorry
theorem dJ7_fill_53178_12 : decode cJ7_fill_53178 12 = .ok (.iload_n 1, 1) := sorry
theorem dJ7_fill_53178_13 : decode cJ7_fill_53178 13 = .ok (.iastore, 1) := sorry
theorem dJ7_fill_53178_14 : decode cJ7_fill_53178 14 = .ok (.iinc 2 1, 3) := sorry
theorem dJ7_fill_53178_17 : decode cJ7_fill_53178 17 = .ok (.goto (-12), 3) := sorry
set_option maxHeartbeats 4000000 in
set_option maxRecDepth 100000 in
theorem k_J7_fill_53178 (l : Launch) (D : va_G) (cy : Nat → ClassId) (ld : Nat → Nat) (t : tk_T) (a0 : Nat) (p1 : Int32) (ht_a0 : t a0 = (20, 8, 0)) : Met l yJ7_fill_53178 (wl yJ7_fill_53178 cJ7_fill_53178 4 none) ({ frames := 3, cells := 0, slots := 0, locals := 140 }) (tp D cy ld t [] [.ref a0, .int p1] (fun H => True)) (tv D cy ld t [] (fun H => True) (tk_w t [(20, 0, 0)])) 0 0 (tk_w t [(20, 0, 0)]) := by sorry
theorem dX0_draw_0 : decode cX0_draw 0 = .ok (.aload_n 0, 1) := sorry
theorem dX0_draw_1 : decode cX0_draw 1 = .ok (.aload_n 0, 1) := sorry
theorem dX0_draw_2 : decode cX0_draw 2 = .ok (.getfield 33, 3) := sorry
theorem dX0_draw_5 : decode cX0_draw 5 = .ok (.i2l, 1) := sorry
theorem dX0_draw_6 : decode cX0_draw 6 = .ok (.ldc2_w 70, 3) := sorry
theorem dX0_draw_9 : decode cX0_draw 9 = .ok (.lmul, 1) := sorry
theorem dX0_draw_10 : decode cX0_draw 10 = .ok (.ldc2_w 72, 3) := sorry
theorem dX0_draw_13 : decode cX0_draw 13 = .ok (.ladd, 1) := sorry
theorem dX0_draw_14 : decode cX0_draw 14 = .ok (.ldc2_w 74, 3) := sorry
theorem dX0_draw_17 : decode cX0_draw 17 = .ok (.lrem, 1) := sorry
theorem dX0_draw_18 : decode cX0_draw 18 = .ok (.l2i, 1) := sorry
theorem dX0_draw_19 : decode cX0_draw 19 = .ok (.putfield 33, 3) := sorry
theorem dX0_draw_22 : decode cX0_draw 22 = .ok (.iload_n 1, 1) := sorry
theorem dX0_draw_23 : decode cX0_draw 23 = .ok (.ifCond .le 12, 3) := sorry
theorem dX0_draw_35 : decode cX0_draw 35 = .ok (.iconst 0, 1) := sorry
theorem dX0_draw_36 : decode cX0_draw 36 = .ok (.ireturn, 1) := sorry
theorem dX0_draw_26 : decode cX0_draw 26 = .ok (.aload_n 0, 1) := sorry
theorem dX0_draw_27 : decode cX0_draw 27 = .ok (.getfield 33, 3) := sorry
theorem dX0_draw_30 : decode cX0_draw 30 = .ok (.iload_n 1, 1) := sorry
theorem dX0_draw_31 : decode cX0_draw 31 = .ok (.irem, 1) := sorry
theorem dX0_draw_32 : decode cX0_draw 32 = .ok (.goto 4, 3) := sorry
set_option maxHeartbeats 4000000 in
set_option maxRecDepth 100000 in
theorem k_X0_draw (l : Launch) (D : va_G) (cy : Nat → ClassId) (ld : Nat → Nat) (t : tk_T) (a0 : Nat) (p1 : Int32) (ht_a0 : t a0 = (1, 0, 0)) : Met l yX0_draw (wl yX0_draw cX0_draw 2 (some .int)) ({ frames := 3, cells := 0, slots := 0, locals := 140 }) (tp D cy ld t [] [.ref a0, .int p1] (fun H => True)) (ti D cy ld t [] (fun r H => 0 ≤ r.toInt ∧ (1 ≤ p1.toInt → 0 ≤ p1.toInt + (-1) * r.toInt + (-1)) ∧ 0 ≤ r.toInt ∧ r.toInt ≤ 2147483646) (tk_w t [(1, 0, 0)])) 0 0 (tk_w t [(1, 0, 0)]) := by sorry
theorem dX2_lawInForce_0 : decode cX2_lawInForce 0 = .ok (.aload_n 0, 1) := sorry
theorem dX2_lawInForce_1 : decode cX2_lawInForce 1 = .ok (.getfield 45, 3) := sorry
theorem dX2_lawInForce_4 : decode cX2_lawInForce 4 = .ok (.ifCond .lt 26, 3) := sorry
theorem dX2_lawInForce_30 : decode cX2_lawInForce 30 = .ok (.aconst_null, 1) := sorry
theorem dX2_lawInForce_31 : decode cX2_lawInForce 31 = .ok (.areturn, 1) := sorry
theorem dX2_lawInForce_7 : decode cX2_lawInForce 7 = .ok (.aload_n 0, 1) := sorry
theorem dX2_lawInForce_8 : decode cX2_lawInForce 8 = .ok (.getfield 45, 3) := sorry
theorem dX2_lawInForce_11 : decode cX2_lawInForce 11 = .ok (.aload_n 0, 1) := sorry
theorem dX2_lawInForce_12 : decode cX2_lawInForce 12 = .ok (.getfield 80, 3) := sorry
theorem dX2_lawInForce_15 : decode cX2_lawInForce 15 = .ok (.if_icmp .ge 15, 3) := sorry
theorem dX2_lawInForce_18 : decode cX2_lawInForce 18 = .ok (.aload_n 0, 1) := sorry
theorem dX2_lawInForce_19 : decode cX2_lawInForce 19 = .ok (.getfield 41, 3) := sorry
theorem dX2_lawInForce_22 : decode cX2_lawInForce 22 = .ok (.aload_n 0, 1) := sorry
theorem dX2_lawInForce_23 : decode cX2_lawInForce 23 = .ok (.getfield 45, 3) := sorry
theorem dX2_lawInForce_26 : decode cX2_lawInForce 26 = .ok (.aaload, 1) := sorry
theorem dX2_lawInForce_27 : decode cX2_lawInForce 27 = .ok (.goto 4, 3) := sorry
set_option maxHeartbeats 4000000 in
set_option maxRecDepth 100000 in
theorem k_X2_lawInForce (l : Launch) (D : va_G) (cy : Nat → ClassId) (ld : Nat → Nat) (t : tk_T) (a0 : Nat) (ht_a0 : t a0 = (3, 0, 0)) : Met l yX2_lawInForce (wl yX2_lawInForce cX2_lawInForce 1 (some (.object "CradleDuel$Script"))) ({ frames := 3, cells := 0, slots := 0, locals := 140 }) (tp D cy ld t [] [.ref a0] (fun H => True)) (tq D cy ld t [] (fun r H => (∀ b : Nat, r = some b → ∃ n r : Nat, t b = (8, n, r))) (tk_w t [])) 0 0 (tk_w t []) := by sorry
theorem dX7_has_0 : decode cX7_has 0 = .ok (.aload_n 0, 1) := sorry
theorem dX7_has_1 : decode cX7_has 1 = .ok (.getfield 37, 3) := sorry
theorem dX7_has_4 : decode cX7_has 4 = .ok (.iload_n 1, 1) := sorry
theorem dX7_has_5 : decode cX7_has 5 = .ok (.ishr, 1) := sorry
theorem dX7_has_6 : decode cX7_has 6 = .ok (.iconst 1, 1) := sorry
theorem dX7_has_7 : decode cX7_has 7 = .ok (.iand, 1) := sorry
theorem dX7_has_8 : decode cX7_has 8 = .ok (.iconst 1, 1) := sorry
theorem dX7_has_9 : decode cX7_has 9 = .ok (.if_icmp .ne 7, 3) := sorry
theorem dX7_has_16 : decode cX7_has 16 = .ok (.iconst 0, 1) := sorry
theorem dX7_has_17 : decode cX7_has 17 = .ok (.ireturn, 1) := sorry
theorem dX7_has_12 : decode cX7_has 12 = .ok (.iconst 1, 1) := sorry
theorem dX7_has_13 : decode cX7_has 13 = .ok (.goto 4, 3) := sorry
set_option maxHeartbeats 4000000 in
set_option maxRecDepth 100000 in
theorem k_X7_has (l : Launch) (D : va_G) (cy : Nat → ClassId) (ld : Nat → Nat) (t : tk_T) (sn0 : Nat) (sr0 : Nat) (a0 : Nat) (p1 : Int32) (ht_a0 : t a0 = (8, sn0, sr0)) : Met l yX7_has (wl yX7_has cX7_has 2 (some .boolean)) ({ frames := 3, cells := 0, slots := 0, locals := 140 }) (tp D cy ld t [] [.ref a0, .int p1] (fun H => True)) (ti D cy ld t [] (fun r H => 0 ≤ r.toInt ∧ r.toInt ≤ 1 ∧ 0 ≤ r.toInt ∧ r.toInt ≤ 1) (tk_w t [])) 0 0 (tk_w t []) := by sorry
theorem dX11_workOut_0 : decode cX11_workOut 0 = .ok (.aload_n 0, 1) := sorry
theorem dX11_workOut_1 : decode cX11_workOut 1 = .ok (.iconst 1, 1) := sorry
theorem dX11_workOut_2 : decode cX11_workOut 2 = .ok (.putfield 18, 3) := sorry
theorem dX11_workOut_5 : decode cX11_workOut 5 = .ok (.iconst (-1), 1) := sorry
theorem dX11_workOut_6 : decode cX11_workOut 6 = .ok (.istore_n 3, 1) := sorry
theorem dX11_workOut_7 : decode cX11_workOut 7 = .ok (.iload_n 2, 1) := sorry
theorem dX11_workOut_8 : decode cX11_workOut 8 = .ok (.istore 4, 2) := sorry
theorem dX11_workOut_10 : decode cX11_workOut 10 = .ok (.iload 4, 2) := sorry
theorem dX11_workOut_12 : decode cX11_workOut 12 = .ok (.ifCond .lt 447, 3) := sorry
theorem dX11_workOut_459 : decode cX11_workOut 459 = .ok (.iconst 0, 1) := sorry
theorem dX11_workOut_460 : decode cX11_workOut 460 = .ok (.ireturn, 1) := sorry
theorem dX11_workOut_15 : decode cX11_workOut 15 = .ok (.iload 4, 2) := sorry
theorem dX11_workOut_17 : decode cX11_workOut 17 = .ok (.aload_n 1, 1) := sorry
theorem dX11_workOut_18 : decode cX11_workOut 18 = .ok (.getfield 22, 3) := sorry
theorem dX11_workOut_21 : decode cX11_workOut 21 = .ok (.if_icmp .ge 438, 3) := sorry
theorem dX11_workOut_24 : decode cX11_workOut 24 = .ok (.aload_n 1, 1) := sorry
theorem dX11_workOut_25 : decode cX11_workOut 25 = .ok (.getfield 28, 3) := sorry
theorem dX11_workOut_28 : decode cX11_workOut 28 = .ok (.iload 4, 2) := sorry
theorem dX11_workOut_30 : decode cX11_workOut 30 = .ok (.iaload, 1) := sorry
theorem dX11_workOut_31 : decode cX11_workOut 31 = .ok (.istore 5, 2) := sorry
theorem dX11_workOut_33 : decode cX11_workOut 33 = .ok (.aload_n 1, 1) := sorry
theorem dX11_workOut_34 : decode cX11_workOut 34 = .ok (.getfield 31, 3) := sorry
theorem dX11_workOut_37 : decode cX11_workOut 37 = .ok (.iload 4, 2) := sorry
theorem dX11_workOut_39 : decode cX11_workOut 39 = .ok (.iaload, 1) := sorry
theorem dX11_workOut_40 : decode cX11_workOut 40 = .ok (.istore 6, 2) := sorry
theorem dX11_workOut_42 : decode cX11_workOut 42 = .ok (.iload 5, 2) := sorry
theorem dX11_workOut_44 : decode cX11_workOut 44 = .ok (.iconst 1, 1) := sorry
theorem dX11_workOut_45 : decode cX11_workOut 45 = .ok (.if_icmp .eq 9, 3) := sorry
theorem dX11_workOut_54 : decode cX11_workOut 54 = .ok (.iinc 3 1, 3) := sorry
theorem dX11_workOut_57 : decode cX11_workOut 57 = .ok (.iload_n 3, 1) := sorry
theorem dX11_workOut_58 : decode cX11_workOut 58 = .ok (.aload_n 0, 1) := sorry
theorem dX11_workOut_59 : decode cX11_workOut 59 = .ok (.getfield 15, 3) := sorry
theorem dX11_workOut_62 : decode cX11_workOut 62 = .ok (.arraylength, 1) := sorry
theorem dX11_workOut_63 : decode cX11_workOut 63 = .ok (.if_icmp .ge 24, 3) := sorry
theorem dX11_workOut_87 : decode cX11_workOut 87 = .ok (.iconst 0, 1) := sorry
theorem dX11_workOut_88 : decode cX11_workOut 88 = .ok (.ireturn, 1) := sorry
theorem dX11_workOut_66 : decode cX11_workOut 66 = .ok (.iload 6, 2) := sorry
theorem dX11_workOut_68 : decode cX11_workOut 68 = .ok (.ifCond .lt 19, 3) := sorry
theorem dX11_workOut_71 : decode cX11_workOut 71 = .ok (.iload 5, 2) := sorry
theorem dX11_workOut_73 : decode cX11_workOut 73 = .ok (.iconst 2, 1) := sorry
theorem dX11_workOut_74 : decode cX11_workOut 74 = .ok (.if_icmp .ne 15, 3) := sorry
theorem dX11_workOut_89 : decode cX11_workOut 89 = .ok (.aload_n 0, 1) := sorry
theorem dX11_workOut_90 : decode cX11_workOut 90 = .ok (.getfield 15, 3) := sorry
theorem dX11_workOut_93 : decode cX11_workOut 93 = .ok (.iload_n 3, 1) := sorry
theorem dX11_workOut_94 : decode cX11_workOut 94 = .ok (.iload 5, 2) := sorry
theorem dX11_workOut_96 : decode cX11_workOut 96 = .ok (.iconst 1, 1) := sorry
theorem dX11_workOut_97 : decode cX11_workOut 97 = .ok (.if_icmp .ne 8, 3) := sorry
theorem dX11_workOut_100 : decode cX11_workOut 100 = .ok (.iload 6, 2) := sorry
theorem dX11_workOut_102 : decode cX11_workOut 102 = .ok (.goto 10, 3) := sorry
theorem dX11_workOut_112 : decode cX11_workOut 112 = .ok (.iastore, 1) := sorry
theorem dX11_workOut_113 : decode cX11_workOut 113 = .ok (.goto 340, 3) := sorry
theorem dX11_workOut_453 : decode cX11_workOut 453 = .ok (.iinc 4 1, 3) := sorry
theorem dX11_workOut_456 : decode cX11_workOut 456 = .ok (.goto (-446), 3) := sorry
theorem dX11_workOut_48 : decode cX11_workOut 48 = .ok (.iload 5, 2) := sorry
theorem dX11_workOut_50 : decode cX11_workOut 50 = .ok (.iconst 2, 1) := sorry
theorem dX11_workOut_51 : decode cX11_workOut 51 = .ok (.if_icmp .ne 65, 3) := sorry
theorem dX11_workOut_116 : decode cX11_workOut 116 = .ok (.iload_n 3, 1) := sorry
theorem dX11_workOut_117 : decode cX11_workOut 117 = .ok (.ifCond .ge 5, 3) := sorry
theorem dX11_workOut_122 : decode cX11_workOut 122 = .ok (.iload 5, 2) := sorry
theorem dX11_workOut_124 : decode cX11_workOut 124 = .ok (.ifCond .ne 15, 3) := sorry
theorem dX11_workOut_139 : decode cX11_workOut 139 = .ok (.iload 5, 2) := sorry
theorem dX11_workOut_141 : decode cX11_workOut 141 = .ok (.iconst 3, 1) := sorry
theorem dX11_workOut_142 : decode cX11_workOut 142 = .ok (.if_icmp .ne 20, 3) := sorry
theorem dX11_workOut_162 : decode cX11_workOut 162 = .ok (.iload 5, 2) := sorry
theorem dX11_workOut_164 : decode cX11_workOut 164 = .ok (.iconst 4, 1) := sorry
theorem dX11_workOut_165 : decode cX11_workOut 165 = .ok (.if_icmp .eq 9, 3) := sorry
theorem dX11_workOut_174 : decode cX11_workOut 174 = .ok (.aload_n 0, 1) := sorry
theorem dX11_workOut_175 : decode cX11_workOut 175 = .ok (.getfield 15, 3) := sorry
theorem dX11_workOut_178 : decode cX11_workOut 178 = .ok (.iload_n 3, 1) := sorry
theorem dX11_workOut_179 : decode cX11_workOut 179 = .ok (.iaload, 1) := sorry
theorem dX11_workOut_188 : decode cX11_workOut 188 = .ok (.iload 5, 2) := sorry
theorem dX11_workOut_190 : decode cX11_workOut 190 = .ok (.iconst 5, 1) := sorry
theorem dX11_workOut_191 : decode cX11_workOut 191 = .ok (.if_icmp .ne 7, 3) := sorry
theorem dX11_workOut_198 : decode cX11_workOut 198 = .ok (.iconst 0, 1) := sorry
theorem dX11_workOut_199 : decode cX11_workOut 199 = .ok (.if_icmp .ne 9, 3) := sorry
theorem dX11_workOut_208 : decode cX11_workOut 208 = .ok (.iload 6, 2) := sorry
theorem dX11_workOut_210 : decode cX11_workOut 210 = .ok (.iload 4, 2) := sorry
theorem dX11_workOut_212 : decode cX11_workOut 212 = .ok (.if_icmp .le 241, 3) := sorry
theorem dX11_workOut_215 : decode cX11_workOut 215 = .ok (.iload 6, 2) := sorry
theorem dX11_workOut_217 : decode cX11_workOut 217 = .ok (.iconst 1, 1) := sorry
theorem dX11_workOut_218 : decode cX11_workOut 218 = .ok (.isub, 1) := sorry
theorem dX11_workOut_219 : decode cX11_workOut 219 = .ok (.istore 4, 2) := sorry
theorem dX11_workOut_221 : decode cX11_workOut 221 = .ok (.goto 232, 3) := sorry
theorem dX11_workOut_202 : decode cX11_workOut 202 = .ok (.iinc 3 (-1), 3) := sorry
theorem dX11_workOut_205 : decode cX11_workOut 205 = .ok (.goto 248, 3) := sorry
theorem dX11_workOut_180 : decode cX11_workOut 180 = .ok (.ifCond .ne 7, 3) := sorry
theorem dX11_workOut_187 : decode cX11_workOut 187 = .ok (.iconst 0, 1) := sorry
theorem dX11_workOut_183 : decode cX11_workOut 183 = .ok (.iconst 1, 1) := sorry
theorem dX11_workOut_184 : decode cX11_workOut 184 = .ok (.goto 4, 3) := sorry
theorem dX11_workOut_168 : decode cX11_workOut 168 = .ok (.iload 5, 2) := sorry
theorem dX11_workOut_170 : decode cX11_workOut 170 = .ok (.iconst 5, 1) := sorry
theorem dX11_workOut_171 : decode cX11_workOut 171 = .ok (.if_icmp .ne 53, 3) := sorry
theorem dX11_workOut_224 : decode cX11_workOut 224 = .ok (.iload_n 3, 1) := sorry
theorem dX11_workOut_225 : decode cX11_workOut 225 = .ok (.iconst 1, 1) := sorry
theorem dX11_workOut_226 : decode cX11_workOut 226 = .ok (.if_icmp .ge 5, 3) := sorry
theorem dX11_workOut_231 : decode cX11_workOut 231 = .ok (.aload_n 0, 1) := sorry
theorem dX11_workOut_232 : decode cX11_workOut 232 = .ok (.getfield 15, 3) := sorry
theorem dX11_workOut_235 : decode cX11_workOut 235 = .ok (.iload_n 3, 1) := sorry
theorem dX11_workOut_236 : decode cX11_workOut 236 = .ok (.iconst 1, 1) := sorry
theorem dX11_workOut_237 : decode cX11_workOut 237 = .ok (.isub, 1) := sorry
theorem dX11_workOut_238 : decode cX11_workOut 238 = .ok (.iaload, 1) := sorry
theorem dX11_workOut_239 : decode cX11_workOut 239 = .ok (.i2l, 1) := sorry
theorem dX11_workOut_240 : decode cX11_workOut 240 = .ok (.lstore 7, 2) := sorry
theorem dX11_workOut_242 : decode cX11_workOut 242 = .ok (.aload_n 0, 1) := sorry
theorem dX11_workOut_243 : decode cX11_workOut 243 = .ok (.getfield 15, 3) := sorry
theorem dX11_workOut_246 : decode cX11_workOut 246 = .ok (.iload_n 3, 1) := sorry
theorem dX11_workOut_247 : decode cX11_workOut 247 = .ok (.iaload, 1) := sorry
theorem dX11_workOut_248 : decode cX11_workOut 248 = .ok (.i2l, 1) := sorry
theorem dX11_workOut_249 : decode cX11_workOut 249 = .ok (.lstore 9, 2) := sorry
theorem dX11_workOut_251 : decode cX11_workOut 251 = .ok (.lload 9, 2) := sorry
theorem dX11_workOut_253 : decode cX11_workOut 253 = .ok (.lconst 0, 1) := sorry
theorem dX11_workOut_254 : decode cX11_workOut 254 = .ok (.lcmp, 1) := sorry
theorem dX11_workOut_255 : decode cX11_workOut 255 = .ok (.ifCond .ne 19, 3) := sorry
theorem dX11_workOut_274 : decode cX11_workOut 274 = .ok (.iload 5, 2) := sorry
theorem dX11_workOut_421 : decode cX11_workOut 421 = .ok (.lload 11, 2) := sorry
theorem dX11_workOut_423 : decode cX11_workOut 423 = .ok (.ldc2_w 34, 3) := sorry
theorem dX11_workOut_426 : decode cX11_workOut 426 = .ok (.lcmp, 1) := sorry
theorem dX11_workOut_427 : decode cX11_workOut 427 = .ok (.ifCond .gt 12, 3) := sorry
theorem dX11_workOut_439 : decode cX11_workOut 439 = .ok (.iconst 0, 1) := sorry
theorem dX11_workOut_440 : decode cX11_workOut 440 = .ok (.ireturn, 1) := sorry
theorem dX11_workOut_430 : decode cX11_workOut 430 = .ok (.lload 11, 2) := sorry
theorem dX11_workOut_432 : decode cX11_workOut 432 = .ok (.ldc2_w 36, 3) := sorry
theorem dX11_workOut_435 : decode cX11_workOut 435 = .ok (.lcmp, 1) := sorry
theorem dX11_workOut_436 : decode cX11_workOut 436 = .ok (.ifCond .ge 5, 3) := sorry
theorem dX11_workOut_441 : decode cX11_workOut 441 = .ok (.iinc 3 (-1), 3) := sorry
theorem dX11_workOut_444 : decode cX11_workOut 444 = .ok (.aload_n 0, 1) := sorry
theorem dX11_workOut_445 : decode cX11_workOut 445 = .ok (.getfield 15, 3) := sorry
theorem dX11_workOut_448 : decode cX11_workOut 448 = .ok (.iload_n 3, 1) := sorry
theorem dX11_workOut_449 : decode cX11_workOut 449 = .ok (.lload 11, 2) := sorry
theorem dX11_workOut_451 : decode cX11_workOut 451 = .ok (.l2i, 1) := sorry
theorem dX11_workOut_452 : decode cX11_workOut 452 = .ok (.iastore, 1) := sorry
theorem dX11_workOut_276 : decode cX11_workOut 276 = .ok (.tableswitch 130 6 12 #[44, 54, 64, 74, 84, 94, 112], 44) := sorry
theorem dX11_workOut_320 : decode cX11_workOut 320 = .ok (.lload 7, 2) := sorry
theorem dX11_workOut_322 : decode cX11_workOut 322 = .ok (.lload 9, 2) := sorry
theorem dX11_workOut_324 : decode cX11_workOut 324 = .ok (.ladd, 1) := sorry
theorem dX11_workOut_325 : decode cX11_workOut 325 = .ok (.lstore 11, 2) := sorry
theorem dX11_workOut_327 : decode cX11_workOut 327 = .ok (.goto 94, 3) := sorry
theorem dX11_workOut_330 : decode cX11_workOut 330 = .ok (.lload 7, 2) := sorry
theorem dX11_workOut_332 : decode cX11_workOut 332 = .ok (.lload 9, 2) := sorry
theorem dX11_workOut_334 : decode cX11_workOut 334 = .ok (.lsub, 1) := sorry
theorem dX11_workOut_335 : decode cX11_workOut 335 = .ok (.lstore 11, 2) := sorry
theorem dX11_workOut_337 : decode cX11_workOut 337 = .ok (.goto 84, 3) := sorry
theorem dX11_workOut_340 : decode cX11_workOut 340 = .ok (.lload 7, 2) := sorry
theorem dX11_workOut_342 : decode cX11_workOut 342 = .ok (.lload 9, 2) := sorry
theorem dX11_workOut_344 : decode cX11_workOut 344 = .ok (.lmul, 1) := sorry
theorem dX11_workOut_345 : decode cX11_workOut 345 = .ok (.lstore 11, 2) := sorry
theorem dX11_workOut_347 : decode cX11_workOut 347 = .ok (.goto 74, 3) := sorry
theorem dX11_workOut_350 : decode cX11_workOut 350 = .ok (.lload 7, 2) := sorry
theorem dX11_workOut_352 : decode cX11_workOut 352 = .ok (.lload 9, 2) := sorry
theorem dX11_workOut_354 : decode cX11_workOut 354 = .ok (.ldiv, 1) := sorry
theorem dX11_workOut_355 : decode cX11_workOut 355 = .ok (.lstore 11, 2) := sorry
theorem dX11_workOut_357 : decode cX11_workOut 357 = .ok (.goto 64, 3) := sorry
theorem dX11_workOut_360 : decode cX11_workOut 360 = .ok (.lload 7, 2) := sorry
theorem dX11_workOut_362 : decode cX11_workOut 362 = .ok (.lload 9, 2) := sorry
theorem dX11_workOut_364 : decode cX11_workOut 364 = .ok (.lrem, 1) := sorry
theorem dX11_workOut_365 : decode cX11_workOut 365 = .ok (.lstore 11, 2) := sorry
theorem dX11_workOut_367 : decode cX11_workOut 367 = .ok (.goto 54, 3) := sorry
theorem dX11_workOut_370 : decode cX11_workOut 370 = .ok (.lload 7, 2) := sorry
theorem dX11_workOut_372 : decode cX11_workOut 372 = .ok (.lload 9, 2) := sorry
theorem dX11_workOut_374 : decode cX11_workOut 374 = .ok (.lcmp, 1) := sorry
theorem dX11_workOut_383 : decode cX11_workOut 383 = .ok (.lstore 11, 2) := sorry
theorem dX11_workOut_385 : decode cX11_workOut 385 = .ok (.goto 36, 3) := sorry
theorem dX11_workOut_375 : decode cX11_workOut 375 = .ok (.ifCond .ge 7, 3) := sorry
theorem dX11_workOut_382 : decode cX11_workOut 382 = .ok (.lconst 0, 1) := sorry
theorem dX11_workOut_378 : decode cX11_workOut 378 = .ok (.lconst 1, 1) := sorry
theorem dX11_workOut_379 : decode cX11_workOut 379 = .ok (.goto 4, 3) := sorry
theorem dX11_workOut_388 : decode cX11_workOut 388 = .ok (.lload 7, 2) := sorry
theorem dX11_workOut_390 : decode cX11_workOut 390 = .ok (.lload 9, 2) := sorry
theorem dX11_workOut_392 : decode cX11_workOut 392 = .ok (.lcmp, 1) := sorry
theorem dX11_workOut_401 : decode cX11_workOut 401 = .ok (.lstore 11, 2) := sorry
theorem dX11_workOut_403 : decode cX11_workOut 403 = .ok (.goto 18, 3) := sorry
theorem dX11_workOut_393 : decode cX11_workOut 393 = .ok (.ifCond .le 7, 3) := sorry
theorem dX11_workOut_400 : decode cX11_workOut 400 = .ok (.lconst 0, 1) := sorry
theorem dX11_workOut_396 : decode cX11_workOut 396 = .ok (.lconst 1, 1) := sorry
theorem dX11_workOut_397 : decode cX11_workOut 397 = .ok (.goto 4, 3) := sorry
theorem dX11_workOut_406 : decode cX11_workOut 406 = .ok (.lload 7, 2) := sorry
theorem dX11_workOut_408 : decode cX11_workOut 408 = .ok (.lload 9, 2) := sorry
theorem dX11_workOut_410 : decode cX11_workOut 410 = .ok (.lcmp, 1) := sorry
theorem dX11_workOut_419 : decode cX11_workOut 419 = .ok (.lstore 11, 2) := sorry
theorem dX11_workOut_411 : decode cX11_workOut 411 = .ok (.ifCond .ne 7, 3) := sorry
theorem dX11_workOut_418 : decode cX11_workOut 418 = .ok (.lconst 0, 1) := sorry
theorem dX11_workOut_414 : decode cX11_workOut 414 = .ok (.lconst 1, 1) := sorry
theorem dX11_workOut_415 : decode cX11_workOut 415 = .ok (.goto 4, 3) := sorry
theorem dX11_workOut_258 : decode cX11_workOut 258 = .ok (.iload 5, 2) := sorry
theorem dX11_workOut_260 : decode cX11_workOut 260 = .ok (.bipush 9, 2) := sorry
theorem dX11_workOut_262 : decode cX11_workOut 262 = .ok (.if_icmp .eq 10, 3) := sorry
theorem dX11_workOut_272 : decode cX11_workOut 272 = .ok (.iconst 0, 1) := sorry
theorem dX11_workOut_273 : decode cX11_workOut 273 = .ok (.ireturn, 1) := sorry
theorem dX11_workOut_265 : decode cX11_workOut 265 = .ok (.iload 5, 2) := sorry
theorem dX11_workOut_267 : decode cX11_workOut 267 = .ok (.bipush 10, 2) := sorry
theorem dX11_workOut_269 : decode cX11_workOut 269 = .ok (.if_icmp .ne 5, 3) := sorry
theorem dX11_workOut_229 : decode cX11_workOut 229 = .ok (.iconst 0, 1) := sorry
theorem dX11_workOut_230 : decode cX11_workOut 230 = .ok (.ireturn, 1) := sorry
theorem dX11_workOut_194 : decode cX11_workOut 194 = .ok (.iconst 1, 1) := sorry
theorem dX11_workOut_195 : decode cX11_workOut 195 = .ok (.goto 4, 3) := sorry
theorem dX11_workOut_145 : decode cX11_workOut 145 = .ok (.aload_n 0, 1) := sorry
theorem dX11_workOut_146 : decode cX11_workOut 146 = .ok (.getfield 15, 3) := sorry
theorem dX11_workOut_149 : decode cX11_workOut 149 = .ok (.iload_n 3, 1) := sorry
theorem dX11_workOut_150 : decode cX11_workOut 150 = .ok (.iconst 1, 1) := sorry
theorem dX11_workOut_151 : decode cX11_workOut 151 = .ok (.aload_n 0, 1) := sorry
theorem dX11_workOut_152 : decode cX11_workOut 152 = .ok (.getfield 15, 3) := sorry
theorem dX11_workOut_155 : decode cX11_workOut 155 = .ok (.iload_n 3, 1) := sorry
theorem dX11_workOut_156 : decode cX11_workOut 156 = .ok (.iaload, 1) := sorry
theorem dX11_workOut_157 : decode cX11_workOut 157 = .ok (.isub, 1) := sorry
theorem dX11_workOut_158 : decode cX11_workOut 158 = .ok (.iastore, 1) := sorry
theorem dX11_workOut_159 : decode cX11_workOut 159 = .ok (.goto 294, 3) := sorry
theorem dX11_workOut_127 : decode cX11_workOut 127 = .ok (.aload_n 0, 1) := sorry
theorem dX11_workOut_128 : decode cX11_workOut 128 = .ok (.iconst 0, 1) := sorry
theorem dX11_workOut_129 : decode cX11_workOut 129 = .ok (.putfield 18, 3) := sorry
theorem dX11_workOut_132 : decode cX11_workOut 132 = .ok (.aload_n 0, 1) := sorry
theorem dX11_workOut_133 : decode cX11_workOut 133 = .ok (.getfield 15, 3) := sorry
theorem dX11_workOut_136 : decode cX11_workOut 136 = .ok (.iload_n 3, 1) := sorry
theorem dX11_workOut_137 : decode cX11_workOut 137 = .ok (.iaload, 1) := sorry
theorem dX11_workOut_138 : decode cX11_workOut 138 = .ok (.ireturn, 1) := sorry
theorem dX11_workOut_120 : decode cX11_workOut 120 = .ok (.iconst 0, 1) := sorry
theorem dX11_workOut_121 : decode cX11_workOut 121 = .ok (.ireturn, 1) := sorry
theorem dX11_workOut_77 : decode cX11_workOut 77 = .ok (.iload 6, 2) := sorry
theorem dX11_workOut_79 : decode cX11_workOut 79 = .ok (.aload_n 0, 1) := sorry
theorem dX11_workOut_80 : decode cX11_workOut 80 = .ok (.getfield 9, 3) := sorry
theorem dX11_workOut_83 : decode cX11_workOut 83 = .ok (.arraylength, 1) := sorry
theorem dX11_workOut_84 : decode cX11_workOut 84 = .ok (.if_icmp .lt 5, 3) := sorry
theorem dX11_workOut_105 : decode cX11_workOut 105 = .ok (.aload_n 0, 1) := sorry
theorem dX11_workOut_106 : decode cX11_workOut 106 = .ok (.getfield 9, 3) := sorry
theorem dX11_workOut_109 : decode cX11_workOut 109 = .ok (.iload 6, 2) := sorry
theorem dX11_workOut_111 : decode cX11_workOut 111 = .ok (.iaload, 1) := sorry
set_option maxHeartbeats 4000000 in
set_option maxRecDepth 100000 in
theorem k_X11_workOut (l : Launch) (D : va_G) (cy : Nat → ClassId) (ld : Nat → Nat) (t : tk_T) (sn1 : Nat) (sr1 : Nat) (a0 : Nat) (a1 : Nat) (p2 : Int32) (ht_a0 : t a0 = (12, 0, 0)) (ht_a1 : t a1 = (8, sn1, sr1)) : Met l yX11_workOut (wl yX11_workOut cX11_workOut 13 (some .int)) ({ frames := 3, cells := 0, slots := 0, locals := 140 }) (tp D cy ld t [] [.ref a0, .ref a1, .int p2] (fun H => True)) (ti D cy ld t [] (fun r H => True) (tk_w t [(12, 0, 0), (20, 0, 0)])) 0 0 (tk_w t [(12, 0, 0), (20, 0, 0)]) := by sorry
theorem dX7_sumOf_0 : decode cX7_sumOf 0 = .ok (.iload_n 1, 1) := sorry
theorem dX7_sumOf_1 : decode cX7_sumOf 1 = .ok (.iconst 3, 1) := sorry
theorem dX7_sumOf_2 : decode cX7_sumOf 2 = .ok (.imul, 1) := sorry
theorem dX7_sumOf_3 : decode cX7_sumOf 3 = .ok (.iload_n 2, 1) := sorry
theorem dX7_sumOf_4 : decode cX7_sumOf 4 = .ok (.iadd, 1) := sorry
theorem dX7_sumOf_5 : decode cX7_sumOf 5 = .ok (.istore_n 3, 1) := sorry
theorem dX7_sumOf_6 : decode cX7_sumOf 6 = .ok (.iload_n 3, 1) := sorry
theorem dX7_sumOf_7 : decode cX7_sumOf 7 = .ok (.ifCond .lt 21, 3) := sorry
theorem dX7_sumOf_28 : decode cX7_sumOf 28 = .ok (.iconst (-1), 1) := sorry
theorem dX7_sumOf_29 : decode cX7_sumOf 29 = .ok (.ireturn, 1) := sorry
theorem dX7_sumOf_10 : decode cX7_sumOf 10 = .ok (.iload_n 3, 1) := sorry
theorem dX7_sumOf_11 : decode cX7_sumOf 11 = .ok (.aload_n 0, 1) := sorry
theorem dX7_sumOf_12 : decode cX7_sumOf 12 = .ok (.getfield 27, 3) := sorry
theorem dX7_sumOf_15 : decode cX7_sumOf 15 = .ok (.arraylength, 1) := sorry
theorem dX7_sumOf_16 : decode cX7_sumOf 16 = .ok (.if_icmp .ge 12, 3) := sorry
theorem dX7_sumOf_19 : decode cX7_sumOf 19 = .ok (.aload_n 0, 1) := sorry
theorem dX7_sumOf_20 : decode cX7_sumOf 20 = .ok (.getfield 27, 3) := sorry
theorem dX7_sumOf_23 : decode cX7_sumOf 23 = .ok (.iload_n 3, 1) := sorry
theorem dX7_sumOf_24 : decode cX7_sumOf 24 = .ok (.iaload, 1) := sorry
theorem dX7_sumOf_25 : decode cX7_sumOf 25 = .ok (.goto 4, 3) := sorry
set_option maxHeartbeats 4000000 in
set_option maxRecDepth 100000 in
theorem k_X7_sumOf (l : Launch) (D : va_G) (cy : Nat → ClassId) (ld : Nat → Nat) (t : tk_T) (sn0 : Nat) (sr0 : Nat) (a0 : Nat) (p1 : Int32) (p2 : Int32) (ht_a0 : t a0 = (8, sn0, sr0)) : Met l yX7_sumOf (wl yX7_sumOf cX7_sumOf 4 (some .int)) ({ frames := 3, cells := 0, slots := 0, locals := 140 }) (tp D cy ld t [] [.ref a0, .int p1, .int p2] (fun H => True)) (ti D cy ld t [] (fun r H => True) (tk_w t [])) 0 0 (tk_w t []) := by sorry
theorem dX8_isTold_0 : decode cX8_isTold 0 = .ok (.aload_n 0, 1) := sorry
theorem dX8_isTold_1 : decode cX8_isTold 1 = .ok (.getfield 18, 3) := sorry
theorem dX8_isTold_4 : decode cX8_isTold 4 = .ok (.invokevirtual 33, 3) := sorry
theorem dX8_isTold_7 : decode cX8_isTold 7 = .ok (.astore_n 2, 1) := sorry
theorem dX8_isTold_8 : decode cX8_isTold 8 = .ok (.aload_n 2, 1) := sorry
theorem dX8_isTold_9 : decode cX8_isTold 9 = .ok (.ifnull 11, 3) := sorry
theorem dX8_isTold_20 : decode cX8_isTold 20 = .ok (.iconst 0, 1) := sorry
theorem dX8_isTold_21 : decode cX8_isTold 21 = .ok (.ireturn, 1) := sorry
theorem dX8_isTold_12 : decode cX8_isTold 12 = .ok (.aload_n 2, 1) := sorry
theorem dX8_isTold_13 : decode cX8_isTold 13 = .ok (.iload_n 1, 1) := sorry
theorem dX8_isTold_14 : decode cX8_isTold 14 = .ok (.invokevirtual 41, 3) := sorry
theorem dX8_isTold_17 : decode cX8_isTold 17 = .ok (.ifCond .ne 5, 3) := sorry
theorem dX8_isTold_22 : decode cX8_isTold 22 = .ok (.aload_n 2, 1) := sorry
theorem dX8_isTold_23 : decode cX8_isTold 23 = .ok (.getfield 141, 3) := sorry
theorem dX8_isTold_26 : decode cX8_isTold 26 = .ok (.iconst 1, 1) := sorry
theorem dX8_isTold_27 : decode cX8_isTold 27 = .ok (.isub, 1) := sorry
theorem dX8_isTold_28 : decode cX8_isTold 28 = .ok (.istore_n 3, 1) := sorry
theorem dX8_isTold_29 : decode cX8_isTold 29 = .ok (.iload_n 3, 1) := sorry
theorem dX8_isTold_30 : decode cX8_isTold 30 = .ok (.ifCond .lt 96, 3) := sorry
theorem dX8_isTold_126 : decode cX8_isTold 126 = .ok (.iconst 0, 1) := sorry
theorem dX8_isTold_127 : decode cX8_isTold 127 = .ok (.ireturn, 1) := sorry
theorem dX8_isTold_33 : decode cX8_isTold 33 = .ok (.aload_n 2, 1) := sorry
theorem dX8_isTold_34 : decode cX8_isTold 34 = .ok (.getfield 144, 3) := sorry
theorem dX8_isTold_37 : decode cX8_isTold 37 = .ok (.iload_n 3, 1) := sorry
theorem dX8_isTold_38 : decode cX8_isTold 38 = .ok (.iaload, 1) := sorry
theorem dX8_isTold_39 : decode cX8_isTold 39 = .ok (.istore 4, 2) := sorry
theorem dX8_isTold_41 : decode cX8_isTold 41 = .ok (.aload_n 2, 1) := sorry
theorem dX8_isTold_42 : decode cX8_isTold 42 = .ok (.getfield 147, 3) := sorry
theorem dX8_isTold_45 : decode cX8_isTold 45 = .ok (.iload_n 3, 1) := sorry
theorem dX8_isTold_46 : decode cX8_isTold 46 = .ok (.iaload, 1) := sorry
theorem dX8_isTold_47 : decode cX8_isTold 47 = .ok (.iload_n 1, 1) := sorry
theorem dX8_isTold_48 : decode cX8_isTold 48 = .ok (.if_icmp .ne 72, 3) := sorry
theorem dX8_isTold_120 : decode cX8_isTold 120 = .ok (.iinc 3 (-1), 3) := sorry
theorem dX8_isTold_123 : decode cX8_isTold 123 = .ok (.goto (-94), 3) := sorry
theorem dX8_isTold_51 : decode cX8_isTold 51 = .ok (.iload 4, 2) := sorry
theorem dX8_isTold_53 : decode cX8_isTold 53 = .ok (.iconst (-1), 1) := sorry
theorem dX8_isTold_54 : decode cX8_isTold 54 = .ok (.if_icmp .eq 16, 3) := sorry
theorem dX8_isTold_70 : decode cX8_isTold 70 = .ok (.aload_n 2, 1) := sorry
theorem dX8_isTold_71 : decode cX8_isTold 71 = .ok (.iload_n 3, 1) := sorry
theorem dX8_isTold_72 : decode cX8_isTold 72 = .ok (.iconst 0, 1) := sorry
theorem dX8_isTold_73 : decode cX8_isTold 73 = .ok (.invokevirtual 154, 3) := sorry
theorem dX8_isTold_76 : decode cX8_isTold 76 = .ok (.istore 5, 2) := sorry
theorem dX8_isTold_78 : decode cX8_isTold 78 = .ok (.aload_n 0, 1) := sorry
theorem dX8_isTold_79 : decode cX8_isTold 79 = .ok (.iload 5, 2) := sorry
theorem dX8_isTold_81 : decode cX8_isTold 81 = .ok (.iconst (-1), 1) := sorry
theorem dX8_isTold_99 : decode cX8_isTold 99 = .ok (.putfield 67, 3) := sorry
theorem dX8_isTold_102 : decode cX8_isTold 102 = .ok (.iload 5, 2) := sorry
theorem dX8_isTold_104 : decode cX8_isTold 104 = .ok (.iconst (-1), 1) := sorry
theorem dX8_isTold_105 : decode cX8_isTold 105 = .ok (.if_icmp .eq 13, 3) := sorry
theorem dX8_isTold_118 : decode cX8_isTold 118 = .ok (.iconst 1, 1) := sorry
theorem dX8_isTold_119 : decode cX8_isTold 119 = .ok (.ireturn, 1) := sorry
theorem dX8_isTold_108 : decode cX8_isTold 108 = .ok (.aload_n 0, 1) := sorry
theorem dX8_isTold_109 : decode cX8_isTold 109 = .ok (.getfield 12, 3) := sorry
theorem dX8_isTold_112 : decode cX8_isTold 112 = .ok (.getfield 157, 3) := sorry
theorem dX8_isTold_115 : decode cX8_isTold 115 = .ok (.ifCond .ne 5, 3) := sorry
theorem dX8_isTold_82 : decode cX8_isTold 82 = .ok (.if_icmp .ne 7, 3) := sorry
theorem dX8_isTold_89 : decode cX8_isTold 89 = .ok (.aload_n 0, 1) := sorry
theorem dX8_isTold_90 : decode cX8_isTold 90 = .ok (.getfield 12, 3) := sorry
theorem dX8_isTold_93 : decode cX8_isTold 93 = .ok (.aload_n 2, 1) := sorry
theorem dX8_isTold_94 : decode cX8_isTold 94 = .ok (.iload 5, 2) := sorry
theorem dX8_isTold_96 : decode cX8_isTold 96 = .ok (.invokevirtual 150, 3) := sorry
theorem dX8_isTold_85 : decode cX8_isTold 85 = .ok (.iconst 0, 1) := sorry
theorem dX8_isTold_86 : decode cX8_isTold 86 = .ok (.goto 13, 3) := sorry
theorem dX8_isTold_57 : decode cX8_isTold 57 = .ok (.aload_n 0, 1) := sorry
theorem dX8_isTold_58 : decode cX8_isTold 58 = .ok (.getfield 12, 3) := sorry
theorem dX8_isTold_61 : decode cX8_isTold 61 = .ok (.aload_n 2, 1) := sorry
theorem dX8_isTold_62 : decode cX8_isTold 62 = .ok (.iload 4, 2) := sorry
theorem dX8_isTold_64 : decode cX8_isTold 64 = .ok (.invokevirtual 150, 3) := sorry
theorem dX8_isTold_67 : decode cX8_isTold 67 = .ok (.ifCond .eq 53, 3) := sorry
set_option maxHeartbeats 4000000 in
set_option maxRecDepth 100000 in
theorem k_X8_isTold (l : Launch) (D : va_G) (cy : Nat → ClassId) (ld : Nat → Nat) (t : tk_T) (a0 : Nat) (p1 : Int32) (ht_a0 : t a0 = (9, 0, 0)) : Met l yX8_isTold (wl yX8_isTold cX8_isTold 6 (some .boolean)) ({ frames := 4, cells := 0, slots := 0, locals := 210 }) (tp D cy ld t [] [.ref a0, .int p1] (fun H => True)) (ti D cy ld t [] (fun r H => 0 ≤ r.toInt ∧ r.toInt ≤ 1 ∧ 0 ≤ r.toInt ∧ r.toInt ≤ 1) (tk_w t [(12, 0, 0), (20, 0, 0), (9, 0, 0)])) 0 0 (tk_w t [(12, 0, 0), (20, 0, 0), (9, 0, 0)]) := by sorry
theorem dX8_setVerse_0 : decode cX8_setVerse 0 = .ok (.aload_n 0, 1) := sorry
theorem dX8_setVerse_1 : decode cX8_setVerse 1 = .ok (.getfield 12, 3) := sorry
theorem dX8_setVerse_4 : decode cX8_setVerse 4 = .ok (.getfield 48, 3) := sorry
theorem dX8_setVerse_7 : decode cX8_setVerse 7 = .ok (.astore 5, 2) := sorry
theorem dX8_setVerse_9 : decode cX8_setVerse 9 = .ok (.aload 5, 2) := sorry
theorem dX8_setVerse_11 : decode cX8_setVerse 11 = .ok (.iconst 0, 1) := sorry
theorem dX8_setVerse_12 : decode cX8_setVerse 12 = .ok (.aload_n 0, 1) := sorry
theorem dX8_setVerse_13 : decode cX8_setVerse 13 = .ok (.getfield 18, 3) := sorry
theorem dX8_setVerse_16 : decode cX8_setVerse 16 = .ok (.getfield 52, 3) := sorry
theorem dX8_setVerse_19 : decode cX8_setVerse 19 = .ok (.iload_n 2, 1) := sorry
theorem dX8_setVerse_20 : decode cX8_setVerse 20 = .ok (.iaload, 1) := sorry
theorem dX8_setVerse_21 : decode cX8_setVerse 21 = .ok (.iastore, 1) := sorry
theorem dX8_setVerse_22 : decode cX8_setVerse 22 = .ok (.aload 5, 2) := sorry
theorem dX8_setVerse_24 : decode cX8_setVerse 24 = .ok (.iconst 1, 1) := sorry
theorem dX8_setVerse_25 : decode cX8_setVerse 25 = .ok (.aload_n 0, 1) := sorry
theorem dX8_setVerse_26 : decode cX8_setVerse 26 = .ok (.getfield 18, 3) := sorry
theorem dX8_setVerse_29 : decode cX8_setVerse 29 = .ok (.getfield 138, 3) := sorry
theorem dX8_setVerse_32 : decode cX8_setVerse 32 = .ok (.iload_n 1, 1) := sorry
theorem dX8_setVerse_33 : decode cX8_setVerse 33 = .ok (.iaload, 1) := sorry
theorem dX8_setVerse_34 : decode cX8_setVerse 34 = .ok (.iastore, 1) := sorry
theorem dX8_setVerse_35 : decode cX8_setVerse 35 = .ok (.aload 5, 2) := sorry
theorem dX8_setVerse_37 : decode cX8_setVerse 37 = .ok (.iconst 2, 1) := sorry
theorem dX8_setVerse_38 : decode cX8_setVerse 38 = .ok (.aload_n 0, 1) := sorry
theorem dX8_setVerse_39 : decode cX8_setVerse 39 = .ok (.getfield 18, 3) := sorry
theorem dX8_setVerse_42 : decode cX8_setVerse 42 = .ok (.getfield 103, 3) := sorry
theorem dX8_setVerse_45 : decode cX8_setVerse 45 = .ok (.iload_n 1, 1) := sorry
theorem dX8_setVerse_46 : decode cX8_setVerse 46 = .ok (.iaload, 1) := sorry
theorem dX8_setVerse_47 : decode cX8_setVerse 47 = .ok (.iastore, 1) := sorry
theorem dX8_setVerse_48 : decode cX8_setVerse 48 = .ok (.aload 5, 2) := sorry
theorem dX8_setVerse_50 : decode cX8_setVerse 50 = .ok (.iconst 3, 1) := sorry
theorem dX8_setVerse_51 : decode cX8_setVerse 51 = .ok (.iload 4, 2) := sorry
theorem dX8_setVerse_53 : decode cX8_setVerse 53 = .ok (.iastore, 1) := sorry
theorem dX8_setVerse_54 : decode cX8_setVerse 54 = .ok (.aload 5, 2) := sorry
theorem dX8_setVerse_56 : decode cX8_setVerse 56 = .ok (.iconst 4, 1) := sorry
theorem dX8_setVerse_57 : decode cX8_setVerse 57 = .ok (.iload_n 3, 1) := sorry
theorem dX8_setVerse_58 : decode cX8_setVerse 58 = .ok (.iastore, 1) := sorry
theorem dX8_setVerse_59 : decode cX8_setVerse 59 = .ok (.aload 5, 2) := sorry
theorem dX8_setVerse_61 : decode cX8_setVerse 61 = .ok (.bipush 8, 2) := sorry
theorem dX8_setVerse_63 : decode cX8_setVerse 63 = .ok (.aload_n 0, 1) := sorry
theorem dX8_setVerse_64 : decode cX8_setVerse 64 = .ok (.getfield 18, 3) := sorry
theorem dX8_setVerse_67 : decode cX8_setVerse 67 = .ok (.getfield 64, 3) := sorry
theorem dX8_setVerse_70 : decode cX8_setVerse 70 = .ok (.iastore, 1) := sorry
theorem dX8_setVerse_71 : decode cX8_setVerse 71 = .ok (.return_, 1) := sorry
set_option maxHeartbeats 4000000 in
set_option maxRecDepth 100000 in
theorem k_X8_setVerse (l : Launch) (D : va_G) (cy : Nat → ClassId) (ld : Nat → Nat) (t : tk_T) (a0 : Nat) (p1 : Int32) (p2 : Int32) (p3 : Int32) (p4 : Int32) (ht_a0 : t a0 = (9, 0, 0)) (hp_0 : 0 ≤ p1.toInt) (hp_1 : p1.toInt ≤ 9) (hp_2 : 0 ≤ p2.toInt) (hp_3 : p2.toInt ≤ 7) : Met l yX8_setVerse (wl yX8_setVerse cX8_setVerse 6 none) ({ frames := 3, cells := 0, slots := 0, locals := 140 }) (tp D cy ld t [] [.ref a0, .int p1, .int p2, .int p3, .int p4] (fun H => True)) (tv D cy ld t [] (fun H => True) (tk_w t [(20, 0, 0)])) 0 0 (tk_w t [(20, 0, 0)]) := by sorry
end

section
theorem dX9_whoHears_0 : decode cX9_whoHears 0 = .ok (.aload_n 0, 1) := sorry
theorem dX9_whoHears_1 : decode cX9_whoHears 1 = .ok (.getfield 49, 3) := sorry
theorem dX9_whoHears_4 : decode cX9_whoHears 4 = .ok (.ifCond .eq 10, 3) := sorry
theorem dX9_whoHears_14 : decode cX9_whoHears 14 = .ok (.aload_n 0, 1) := sorry
theorem dX9_whoHears_15 : decode cX9_whoHears 15 = .ok (.getfield 28, 3) := sorry
theorem dX9_whoHears_18 : decode cX9_whoHears 18 = .ok (.ireturn, 1) := sorry
theorem dX9_whoHears_7 : decode cX9_whoHears 7 = .ok (.aload_n 0, 1) := sorry
theorem dX9_whoHears_8 : decode cX9_whoHears 8 = .ok (.getfield 24, 3) := sorry
theorem dX9_whoHears_11 : decode cX9_whoHears 11 = .ok (.goto 7, 3) := sorry
set_option maxHeartbeats 4000000 in
set_option maxRecDepth 100000 in
theorem k_X9_whoHears (l : Launch) (D : va_G) (cy : Nat → ClassId) (ld : Nat → Nat) (t : tk_T) (rg0 : Nat) (a0 : Nat) (g0 : Int32) (ht_a0 : t a0 = (10, 0, rg0)) (hp_0 : (-1) ≤ g0.toInt) (hp_1 : g0.toInt ≤ 7) : Met l yX9_whoHears (wl yX9_whoHears cX9_whoHears 1 (some .int)) ({ frames := 3, cells := 0, slots := 0, locals := 140 }) (tp D cy ld t [] [.ref a0] (fun H => tk_f D H a0 9 5 (.int g0))) (ti D cy ld t [] (fun r H => (-1) ≤ r.toInt ∧ r.toInt ≤ 7 ∧ (0 ≤ g0.toInt → 0 ≤ r.toInt)) (tk_w t [])) 0 0 (tk_w t []) := by sorry
theorem dX9_whoSings_0 : decode cX9_whoSings 0 = .ok (.aload_n 0, 1) := sorry
theorem dX9_whoSings_1 : decode cX9_whoSings 1 = .ok (.getfield 49, 3) := sorry
theorem dX9_whoSings_4 : decode cX9_whoSings 4 = .ok (.ifCond .eq 10, 3) := sorry
theorem dX9_whoSings_14 : decode cX9_whoSings 14 = .ok (.aload_n 0, 1) := sorry
theorem dX9_whoSings_15 : decode cX9_whoSings 15 = .ok (.getfield 24, 3) := sorry
theorem dX9_whoSings_18 : decode cX9_whoSings 18 = .ok (.ireturn, 1) := sorry
theorem dX9_whoSings_7 : decode cX9_whoSings 7 = .ok (.aload_n 0, 1) := sorry
theorem dX9_whoSings_8 : decode cX9_whoSings 8 = .ok (.getfield 28, 3) := sorry
theorem dX9_whoSings_11 : decode cX9_whoSings 11 = .ok (.goto 7, 3) := sorry
set_option maxHeartbeats 4000000 in
set_option maxRecDepth 100000 in
theorem k_X9_whoSings (l : Launch) (D : va_G) (cy : Nat → ClassId) (ld : Nat → Nat) (t : tk_T) (rg0 : Nat) (a0 : Nat) (g0 : Int32) (ht_a0 : t a0 = (10, 0, rg0)) (hp_0 : (-1) ≤ g0.toInt) (hp_1 : g0.toInt ≤ 7) : Met l yX9_whoSings (wl yX9_whoSings cX9_whoSings 1 (some .int)) ({ frames := 3, cells := 0, slots := 0, locals := 140 }) (tp D cy ld t [] [.ref a0] (fun H => tk_f D H a0 9 5 (.int g0))) (ti D cy ld t [] (fun r H => (-1) ≤ r.toInt ∧ r.toInt ≤ 7 ∧ (0 ≤ g0.toInt → 0 ≤ r.toInt)) (tk_w t [])) 0 0 (tk_w t []) := by sorry
theorem dX8_setWords_0 : decode cX8_setWords 0 = .ok (.aload_n 1, 1) := sorry
theorem dX8_setWords_1 : decode cX8_setWords 1 = .ok (.invokevirtual 89, 3) := sorry
theorem dX8_setWords_4 : decode cX8_setWords 4 = .ok (.istore_n 3, 1) := sorry
theorem dX8_setWords_5 : decode cX8_setWords 5 = .ok (.aload_n 0, 1) := sorry
theorem dX8_setWords_6 : decode cX8_setWords 6 = .ok (.iload_n 2, 1) := sorry
theorem dX8_setWords_7 : decode cX8_setWords 7 = .ok (.aload_n 1, 1) := sorry
theorem dX8_setWords_8 : decode cX8_setWords 8 = .ok (.invokevirtual 86, 3) := sorry
theorem dX8_setWords_11 : decode cX8_setWords 11 = .ok (.aload_n 1, 1) := sorry
theorem dX8_setWords_12 : decode cX8_setWords 12 = .ok (.getfield 135, 3) := sorry
theorem dX8_setWords_15 : decode cX8_setWords 15 = .ok (.aload_n 0, 1) := sorry
theorem dX8_setWords_16 : decode cX8_setWords 16 = .ok (.getfield 18, 3) := sorry
theorem dX8_setWords_19 : decode cX8_setWords 19 = .ok (.getfield 103, 3) := sorry
theorem dX8_setWords_22 : decode cX8_setWords 22 = .ok (.iload_n 2, 1) := sorry
theorem dX8_setWords_23 : decode cX8_setWords 23 = .ok (.iaload, 1) := sorry
theorem dX8_setWords_24 : decode cX8_setWords 24 = .ok (.aload_n 1, 1) := sorry
theorem dX8_setWords_25 : decode cX8_setWords 25 = .ok (.getfield 106, 3) := sorry
theorem dX8_setWords_36 : decode cX8_setWords 36 = .ok (.invokevirtual 74, 3) := sorry
theorem dX8_setWords_39 : decode cX8_setWords 39 = .ok (.aload_n 0, 1) := sorry
theorem dX8_setWords_40 : decode cX8_setWords 40 = .ok (.getfield 12, 3) := sorry
theorem dX8_setWords_43 : decode cX8_setWords 43 = .ok (.getfield 48, 3) := sorry
theorem dX8_setWords_46 : decode cX8_setWords 46 = .ok (.iconst 5, 1) := sorry
theorem dX8_setWords_47 : decode cX8_setWords 47 = .ok (.aload_n 1, 1) := sorry
theorem dX8_setWords_48 : decode cX8_setWords 48 = .ok (.getfield 55, 3) := sorry
theorem dX8_setWords_51 : decode cX8_setWords 51 = .ok (.iload_n 3, 1) := sorry
theorem dX8_setWords_52 : decode cX8_setWords 52 = .ok (.iaload, 1) := sorry
theorem dX8_setWords_53 : decode cX8_setWords 53 = .ok (.iastore, 1) := sorry
theorem dX8_setWords_54 : decode cX8_setWords 54 = .ok (.aload_n 0, 1) := sorry
theorem dX8_setWords_55 : decode cX8_setWords 55 = .ok (.getfield 12, 3) := sorry
theorem dX8_setWords_58 : decode cX8_setWords 58 = .ok (.getfield 48, 3) := sorry
theorem dX8_setWords_61 : decode cX8_setWords 61 = .ok (.bipush 6, 2) := sorry
theorem dX8_setWords_63 : decode cX8_setWords 63 = .ok (.aload_n 0, 1) := sorry
theorem dX8_setWords_64 : decode cX8_setWords 64 = .ok (.getfield 18, 3) := sorry
theorem dX8_setWords_67 : decode cX8_setWords 67 = .ok (.getfield 52, 3) := sorry
theorem dX8_setWords_70 : decode cX8_setWords 70 = .ok (.iload_n 3, 1) := sorry
theorem dX8_setWords_71 : decode cX8_setWords 71 = .ok (.iaload, 1) := sorry
theorem dX8_setWords_72 : decode cX8_setWords 72 = .ok (.iastore, 1) := sorry
theorem dX8_setWords_73 : decode cX8_setWords 73 = .ok (.aload_n 0, 1) := sorry
theorem dX8_setWords_74 : decode cX8_setWords 74 = .ok (.getfield 12, 3) := sorry
theorem dX8_setWords_77 : decode cX8_setWords 77 = .ok (.getfield 48, 3) := sorry
theorem dX8_setWords_80 : decode cX8_setWords 80 = .ok (.bipush 7, 2) := sorry
theorem dX8_setWords_82 : decode cX8_setWords 82 = .ok (.aload_n 1, 1) := sorry
theorem dX8_setWords_83 : decode cX8_setWords 83 = .ok (.getfield 60, 3) := sorry
theorem dX8_setWords_86 : decode cX8_setWords 86 = .ok (.iastore, 1) := sorry
theorem dX8_setWords_87 : decode cX8_setWords 87 = .ok (.return_, 1) := sorry
theorem dX8_setWords_28 : decode cX8_setWords 28 = .ok (.if_icmp .ne 7, 3) := sorry
theorem dX8_setWords_35 : decode cX8_setWords 35 = .ok (.iconst 0, 1) := sorry
theorem dX8_setWords_31 : decode cX8_setWords 31 = .ok (.iconst 1, 1) := sorry
theorem dX8_setWords_32 : decode cX8_setWords 32 = .ok (.goto 4, 3) := sorry
set_option maxHeartbeats 4000000 in
set_option maxRecDepth 100000 in
theorem k_X8_setWords (l : Launch) (D : va_G) (cy : Nat → ClassId) (ld : Nat → Nat) (t : tk_T) (rg1 : Nat) (a0 : Nat) (a1 : Nat) (p2 : Int32) (g0 : Int32) (ht_a0 : t a0 = (9, 0, 0)) (ht_a1 : t a1 = (10, 0, rg1)) (hp_0 : 0 ≤ p2.toInt) (hp_1 : p2.toInt ≤ 9) (hp_2 : 0 ≤ g0.toInt) (hp_3 : g0.toInt ≤ 7) : Met l yX8_setWords (wl yX8_setWords cX8_setWords 4 none) ({ frames := 4, cells := 0, slots := 0, locals := 210 }) (tp D cy ld t [] [.ref a0, .ref a1, .int p2] (fun H => tk_f D H a1 9 5 (.int g0))) (tv D cy ld t [] (fun H => True) (tk_w t [(20, 0, 0)])) 0 0 (tk_w t [(20, 0, 0)]) := by sorry
theorem dX8_isBarred_0 : decode cX8_isBarred 0 = .ok (.aload_n 0, 1) := sorry
theorem dX8_isBarred_1 : decode cX8_isBarred 1 = .ok (.getfield 18, 3) := sorry
theorem dX8_isBarred_4 : decode cX8_isBarred 4 = .ok (.invokevirtual 33, 3) := sorry
theorem dX8_isBarred_7 : decode cX8_isBarred 7 = .ok (.astore_n 3, 1) := sorry
theorem dX8_isBarred_8 : decode cX8_isBarred 8 = .ok (.aload_n 3, 1) := sorry
theorem dX8_isBarred_9 : decode cX8_isBarred 9 = .ok (.ifnull 11, 3) := sorry
theorem dX8_isBarred_20 : decode cX8_isBarred 20 = .ok (.iconst 0, 1) := sorry
theorem dX8_isBarred_21 : decode cX8_isBarred 21 = .ok (.ireturn, 1) := sorry
theorem dX8_isBarred_12 : decode cX8_isBarred 12 = .ok (.aload_n 3, 1) := sorry
theorem dX8_isBarred_13 : decode cX8_isBarred 13 = .ok (.iconst 3, 1) := sorry
theorem dX8_isBarred_14 : decode cX8_isBarred 14 = .ok (.invokevirtual 41, 3) := sorry
theorem dX8_isBarred_17 : decode cX8_isBarred 17 = .ok (.ifCond .ne 5, 3) := sorry
theorem dX8_isBarred_22 : decode cX8_isBarred 22 = .ok (.aload_n 0, 1) := sorry
theorem dX8_isBarred_23 : decode cX8_isBarred 23 = .ok (.aload_n 1, 1) := sorry
theorem dX8_isBarred_24 : decode cX8_isBarred 24 = .ok (.iload_n 2, 1) := sorry
theorem dX8_isBarred_25 : decode cX8_isBarred 25 = .ok (.invokevirtual 22, 3) := sorry
theorem dX8_isBarred_28 : decode cX8_isBarred 28 = .ok (.aload_n 0, 1) := sorry
theorem dX8_isBarred_29 : decode cX8_isBarred 29 = .ok (.iconst 3, 1) := sorry
theorem dX8_isBarred_30 : decode cX8_isBarred 30 = .ok (.invokevirtual 45, 3) := sorry
theorem dX8_isBarred_33 : decode cX8_isBarred 33 = .ok (.ireturn, 1) := sorry
set_option maxHeartbeats 4000000 in
set_option maxRecDepth 100000 in
theorem k_X8_isBarred (l : Launch) (D : va_G) (cy : Nat → ClassId) (ld : Nat → Nat) (t : tk_T) (rg1 : Nat) (a0 : Nat) (a1 : Nat) (p2 : Int32) (g0 : Int32) (ht_a0 : t a0 = (9, 0, 0)) (ht_a1 : t a1 = (10, 0, rg1)) (hp_0 : 0 ≤ p2.toInt) (hp_1 : p2.toInt ≤ 9) (hp_2 : 0 ≤ g0.toInt) (hp_3 : g0.toInt ≤ 7) : Met l yX8_isBarred (wl yX8_isBarred cX8_isBarred 4 (some .boolean)) ({ frames := 5, cells := 0, slots := 0, locals := 280 }) (tp D cy ld t [] [.ref a0, .ref a1, .int p2] (fun H => tk_f D H a1 9 5 (.int g0))) (ti D cy ld t [] (fun r H => 0 ≤ r.toInt ∧ r.toInt ≤ 1 ∧ 0 ≤ r.toInt ∧ r.toInt ≤ 1) (tk_w t [(20, 0, 0), (12, 0, 0), (9, 0, 0)])) 0 0 (tk_w t [(20, 0, 0), (12, 0, 0), (9, 0, 0)]) := by sorry
theorem dX0_listOpen_0 : decode cX0_listOpen 0 = .ok (.iconst 0, 1) := sorry
theorem dX0_listOpen_1 : decode cX0_listOpen 1 = .ok (.istore_n 1, 1) := sorry
theorem dX0_listOpen_2 : decode cX0_listOpen 2 = .ok (.iconst 0, 1) := sorry
theorem dX0_listOpen_3 : decode cX0_listOpen 3 = .ok (.istore_n 2, 1) := sorry
theorem dX0_listOpen_4 : decode cX0_listOpen 4 = .ok (.iload_n 2, 1) := sorry
theorem dX0_listOpen_5 : decode cX0_listOpen 5 = .ok (.aload_n 0, 1) := sorry
theorem dX0_listOpen_6 : decode cX0_listOpen 6 = .ok (.getfield 25, 3) := sorry
theorem dX0_listOpen_9 : decode cX0_listOpen 9 = .ok (.getfield 111, 3) := sorry
theorem dX0_listOpen_12 : decode cX0_listOpen 12 = .ok (.if_icmp .ge 34, 3) := sorry
theorem dX0_listOpen_46 : decode cX0_listOpen 46 = .ok (.iload_n 1, 1) := sorry
theorem dX0_listOpen_47 : decode cX0_listOpen 47 = .ok (.ireturn, 1) := sorry
theorem dX0_listOpen_15 : decode cX0_listOpen 15 = .ok (.aload_n 0, 1) := sorry
theorem dX0_listOpen_16 : decode cX0_listOpen 16 = .ok (.getfield 29, 3) := sorry
theorem dX0_listOpen_19 : decode cX0_listOpen 19 = .ok (.aload_n 0, 1) := sorry
theorem dX0_listOpen_20 : decode cX0_listOpen 20 = .ok (.getfield 12, 3) := sorry
theorem dX0_listOpen_23 : decode cX0_listOpen 23 = .ok (.iload_n 2, 1) := sorry
theorem dX0_listOpen_24 : decode cX0_listOpen 24 = .ok (.invokevirtual 114, 3) := sorry
theorem dX0_listOpen_40 : decode cX0_listOpen 40 = .ok (.iinc 2 1, 3) := sorry
theorem dX0_listOpen_43 : decode cX0_listOpen 43 = .ok (.goto (-39), 3) := sorry
theorem dX0_listOpen_27 : decode cX0_listOpen 27 = .ok (.ifCond .ne 13, 3) := sorry
theorem dX0_listOpen_30 : decode cX0_listOpen 30 = .ok (.aload_n 0, 1) := sorry
theorem dX0_listOpen_31 : decode cX0_listOpen 31 = .ok (.getfield 22, 3) := sorry
theorem dX0_listOpen_34 : decode cX0_listOpen 34 = .ok (.iload_n 1, 1) := sorry
theorem dX0_listOpen_35 : decode cX0_listOpen 35 = .ok (.iload_n 2, 1) := sorry
theorem dX0_listOpen_36 : decode cX0_listOpen 36 = .ok (.iastore, 1) := sorry
theorem dX0_listOpen_37 : decode cX0_listOpen 37 = .ok (.iinc 1 1, 3) := sorry
set_option maxHeartbeats 4000000 in
set_option maxRecDepth 100000 in
theorem k_X0_listOpen (l : Launch) (D : va_G) (cy : Nat → ClassId) (ld : Nat → Nat) (t : tk_T) (a0 : Nat) (g0 : Int32) (ht_a0 : t a0 = (1, 0, 0)) (ht_ld22 : t (ld 22) = (10, 0, 5)) (hp_0 : 0 ≤ g0.toInt) (hp_1 : g0.toInt ≤ 7) : Met l yX0_listOpen (wl yX0_listOpen cX0_listOpen 3 (some .int)) ({ frames := 6, cells := 0, slots := 0, locals := 350 }) (tp D cy ld t [] [.ref a0] (fun H => tk_f D H (ld 22) 9 5 (.int g0))) (ti D cy ld t [] (fun r H => 0 ≤ r.toInt ∧ r.toInt ≤ 10) (tk_w t [(20, 0, 0), (12, 0, 0), (9, 0, 0), (22, 0, 0)])) 0 0 (tk_w t [(20, 0, 0), (12, 0, 0), (9, 0, 0), (22, 0, 0)]) := by sorry
theorem dX0_singerOf_0 : decode cX0_singerOf 0 = .ok (.iload_n 2, 1) := sorry
theorem dX0_singerOf_1 : decode cX0_singerOf 1 = .ok (.istore_n 3, 1) := sorry
theorem dX0_singerOf_2 : decode cX0_singerOf 2 = .ok (.iconst 0, 1) := sorry
theorem dX0_singerOf_3 : decode cX0_singerOf 3 = .ok (.istore 4, 2) := sorry
theorem dX0_singerOf_5 : decode cX0_singerOf 5 = .ok (.iload 4, 2) := sorry
theorem dX0_singerOf_7 : decode cX0_singerOf 7 = .ok (.aload_n 0, 1) := sorry
theorem dX0_singerOf_8 : decode cX0_singerOf 8 = .ok (.getfield 25, 3) := sorry
theorem dX0_singerOf_11 : decode cX0_singerOf 11 = .ok (.getfield 37, 3) := sorry
theorem dX0_singerOf_14 : decode cX0_singerOf 14 = .ok (.if_icmp .ge 33, 3) := sorry
theorem dX0_singerOf_47 : decode cX0_singerOf 47 = .ok (.iconst (-1), 1) := sorry
theorem dX0_singerOf_48 : decode cX0_singerOf 48 = .ok (.ireturn, 1) := sorry
theorem dX0_singerOf_17 : decode cX0_singerOf 17 = .ok (.aload_n 0, 1) := sorry
theorem dX0_singerOf_18 : decode cX0_singerOf 18 = .ok (.getfield 25, 3) := sorry
theorem dX0_singerOf_21 : decode cX0_singerOf 21 = .ok (.getfield 108, 3) := sorry
theorem dX0_singerOf_24 : decode cX0_singerOf 24 = .ok (.iload 4, 2) := sorry
theorem dX0_singerOf_26 : decode cX0_singerOf 26 = .ok (.iaload, 1) := sorry
theorem dX0_singerOf_27 : decode cX0_singerOf 27 = .ok (.iload_n 1, 1) := sorry
theorem dX0_singerOf_28 : decode cX0_singerOf 28 = .ok (.if_icmp .ne 13, 3) := sorry
theorem dX0_singerOf_41 : decode cX0_singerOf 41 = .ok (.iinc 4 1, 3) := sorry
theorem dX0_singerOf_44 : decode cX0_singerOf 44 = .ok (.goto (-39), 3) := sorry
theorem dX0_singerOf_31 : decode cX0_singerOf 31 = .ok (.iload_n 3, 1) := sorry
theorem dX0_singerOf_32 : decode cX0_singerOf 32 = .ok (.ifCond .ne 6, 3) := sorry
theorem dX0_singerOf_38 : decode cX0_singerOf 38 = .ok (.iinc 3 (-1), 3) := sorry
theorem dX0_singerOf_35 : decode cX0_singerOf 35 = .ok (.iload 4, 2) := sorry
theorem dX0_singerOf_37 : decode cX0_singerOf 37 = .ok (.ireturn, 1) := sorry
set_option maxHeartbeats 4000000 in
set_option maxRecDepth 100000 in
theorem k_X0_singerOf (l : Launch) (D : va_G) (cy : Nat → ClassId) (ld : Nat → Nat) (t : tk_T) (a0 : Nat) (p1 : Int32) (p2 : Int32) (ht_a0 : t a0 = (1, 0, 0)) : Met l yX0_singerOf (wl yX0_singerOf cX0_singerOf 5 (some .int)) ({ frames := 3, cells := 0, slots := 0, locals := 140 }) (tp D cy ld t [] [.ref a0, .int p1, .int p2] (fun H => True)) (ti D cy ld t [] (fun r H => (-1) ≤ r.toInt ∧ r.toInt ≤ 7) (tk_w t [])) 0 0 (tk_w t []) := by sorry
theorem dX2_howManyOf_0 : decode cX2_howManyOf 0 = .ok (.iconst 0, 1) := sorry
theorem dX2_howManyOf_1 : decode cX2_howManyOf 1 = .ok (.istore_n 2, 1) := sorry
theorem dX2_howManyOf_2 : decode cX2_howManyOf 2 = .ok (.iconst 0, 1) := sorry
theorem dX2_howManyOf_3 : decode cX2_howManyOf 3 = .ok (.istore_n 3, 1) := sorry
theorem dX2_howManyOf_4 : decode cX2_howManyOf 4 = .ok (.iload_n 3, 1) := sorry
theorem dX2_howManyOf_5 : decode cX2_howManyOf 5 = .ok (.aload_n 0, 1) := sorry
theorem dX2_howManyOf_6 : decode cX2_howManyOf 6 = .ok (.getfield 62, 3) := sorry
theorem dX2_howManyOf_9 : decode cX2_howManyOf 9 = .ok (.if_icmp .ge 22, 3) := sorry
theorem dX2_howManyOf_31 : decode cX2_howManyOf 31 = .ok (.iload_n 2, 1) := sorry
theorem dX2_howManyOf_32 : decode cX2_howManyOf 32 = .ok (.ireturn, 1) := sorry
theorem dX2_howManyOf_12 : decode cX2_howManyOf 12 = .ok (.aload_n 0, 1) := sorry
theorem dX2_howManyOf_13 : decode cX2_howManyOf 13 = .ok (.getfield 15, 3) := sorry
theorem dX2_howManyOf_16 : decode cX2_howManyOf 16 = .ok (.iload_n 3, 1) := sorry
theorem dX2_howManyOf_17 : decode cX2_howManyOf 17 = .ok (.iaload, 1) := sorry
theorem dX2_howManyOf_18 : decode cX2_howManyOf 18 = .ok (.iload_n 1, 1) := sorry
theorem dX2_howManyOf_25 : decode cX2_howManyOf 25 = .ok (.iinc 3 1, 3) := sorry
theorem dX2_howManyOf_28 : decode cX2_howManyOf 28 = .ok (.goto (-24), 3) := sorry
theorem dX2_howManyOf_19 : decode cX2_howManyOf 19 = .ok (.if_icmp .ne 6, 3) := sorry
theorem dX2_howManyOf_22 : decode cX2_howManyOf 22 = .ok (.iinc 2 1, 3) := sorry
set_option maxHeartbeats 4000000 in
set_option maxRecDepth 100000 in
theorem k_X2_howManyOf (l : Launch) (D : va_G) (cy : Nat → ClassId) (ld : Nat → Nat) (t : tk_T) (a0 : Nat) (p1 : Int32) (ht_a0 : t a0 = (3, 0, 0)) : Met l yX2_howManyOf (wl yX2_howManyOf cX2_howManyOf 4 (some .int)) ({ frames := 3, cells := 0, slots := 0, locals := 140 }) (tp D cy ld t [] [.ref a0, .int p1] (fun H => True)) (ti D cy ld t [] (fun r H => 0 ≤ r.toInt ∧ r.toInt ≤ 8) (tk_w t [])) 0 0 (tk_w t []) := by sorry
theorem dX8_nearest_0 : decode cX8_nearest 0 = .ok (.iconst 0, 1) := sorry
theorem dX8_nearest_1 : decode cX8_nearest 1 = .ok (.iload_n 1, 1) := sorry
theorem dX8_nearest_2 : decode cX8_nearest 2 = .ok (.iload_n 0, 1) := sorry
theorem dX8_nearest_3 : decode cX8_nearest 3 = .ok (.invokestatic 132, 3) := sorry
theorem dX8_nearest_6 : decode cX8_nearest 6 = .ok (.invokestatic 92, 3) := sorry
theorem dX8_nearest_9 : decode cX8_nearest 9 = .ok (.ireturn, 1) := sorry
set_option maxHeartbeats 4000000 in
set_option maxRecDepth 100000 in
theorem k_X8_nearest (l : Launch) (D : va_G) (cy : Nat → ClassId) (ld : Nat → Nat) (t : tk_T) (X : List Nat) (p0 : Int32) (p1 : Int32) : Met l yX8_nearest (wl yX8_nearest cX8_nearest 2 (some .int)) ({ frames := 4, cells := 0, slots := 0, locals := 210 }) (tp D cy ld t X [.int p0, .int p1] (fun H => True)) (ti D cy ld t X (fun r H => 0 ≤ r.toInt) (tk_w t [])) 0 0 (tk_w t []) := by sorry
theorem dX8_lullByWords_0 : decode cX8_lullByWords 0 = .ok (.aload_n 0, 1) := sorry
theorem dX8_lullByWords_1 : decode cX8_lullByWords 1 = .ok (.iconst 0, 1) := sorry
theorem dX8_lullByWords_2 : decode cX8_lullByWords 2 = .ok (.invokevirtual 45, 3) := sorry
theorem dX8_lullByWords_5 : decode cX8_lullByWords 5 = .ok (.ifCond .eq 14, 3) := sorry
theorem dX8_lullByWords_19 : decode cX8_lullByWords 19 = .ok (.aload_n 0, 1) := sorry
theorem dX8_lullByWords_20 : decode cX8_lullByWords 20 = .ok (.getfield 12, 3) := sorry
theorem dX8_lullByWords_23 : decode cX8_lullByWords 23 = .ok (.getfield 48, 3) := sorry
theorem dX8_lullByWords_26 : decode cX8_lullByWords 26 = .ok (.iconst 1, 1) := sorry
theorem dX8_lullByWords_27 : decode cX8_lullByWords 27 = .ok (.iaload, 1) := sorry
theorem dX8_lullByWords_28 : decode cX8_lullByWords 28 = .ok (.aload_n 0, 1) := sorry
theorem dX8_lullByWords_29 : decode cX8_lullByWords 29 = .ok (.getfield 12, 3) := sorry
theorem dX8_lullByWords_32 : decode cX8_lullByWords 32 = .ok (.getfield 48, 3) := sorry
theorem dX8_lullByWords_35 : decode cX8_lullByWords 35 = .ok (.iconst 4, 1) := sorry
theorem dX8_lullByWords_36 : decode cX8_lullByWords 36 = .ok (.iaload, 1) := sorry
theorem dX8_lullByWords_37 : decode cX8_lullByWords 37 = .ok (.iadd, 1) := sorry
theorem dX8_lullByWords_38 : decode cX8_lullByWords 38 = .ok (.istore_n 1, 1) := sorry
theorem dX8_lullByWords_39 : decode cX8_lullByWords 39 = .ok (.aload_n 0, 1) := sorry
theorem dX8_lullByWords_40 : decode cX8_lullByWords 40 = .ok (.getfield 12, 3) := sorry
theorem dX8_lullByWords_43 : decode cX8_lullByWords 43 = .ok (.getfield 48, 3) := sorry
theorem dX8_lullByWords_46 : decode cX8_lullByWords 46 = .ok (.iconst 3, 1) := sorry
theorem dX8_lullByWords_47 : decode cX8_lullByWords 47 = .ok (.iaload, 1) := sorry
theorem dX8_lullByWords_48 : decode cX8_lullByWords 48 = .ok (.iconst 1, 1) := sorry
theorem dX8_lullByWords_49 : decode cX8_lullByWords 49 = .ok (.if_icmp .ne 9, 3) := sorry
theorem dX8_lullByWords_58 : decode cX8_lullByWords 58 = .ok (.iload_n 1, 1) := sorry
theorem dX8_lullByWords_59 : decode cX8_lullByWords 59 = .ok (.ireturn, 1) := sorry
theorem dX8_lullByWords_52 : decode cX8_lullByWords 52 = .ok (.iconst 2, 1) := sorry
theorem dX8_lullByWords_53 : decode cX8_lullByWords 53 = .ok (.iload_n 1, 1) := sorry
theorem dX8_lullByWords_54 : decode cX8_lullByWords 54 = .ok (.imul, 1) := sorry
theorem dX8_lullByWords_55 : decode cX8_lullByWords 55 = .ok (.goto 4, 3) := sorry
theorem dX8_lullByWords_8 : decode cX8_lullByWords 8 = .ok (.aload_n 0, 1) := sorry
theorem dX8_lullByWords_9 : decode cX8_lullByWords 9 = .ok (.getfield 67, 3) := sorry
theorem dX8_lullByWords_12 : decode cX8_lullByWords 12 = .ok (.sipush 999, 3) := sorry
theorem dX8_lullByWords_15 : decode cX8_lullByWords 15 = .ok (.invokestatic 70, 3) := sorry
theorem dX8_lullByWords_18 : decode cX8_lullByWords 18 = .ok (.ireturn, 1) := sorry
set_option maxHeartbeats 4000000 in
set_option maxRecDepth 100000 in
theorem k_X8_lullByWords (l : Launch) (D : va_G) (cy : Nat → ClassId) (ld : Nat → Nat) (t : tk_T) (a0 : Nat) (ht_a0 : t a0 = (9, 0, 0)) : Met l yX8_lullByWords (wl yX8_lullByWords cX8_lullByWords 2 (some .int)) ({ frames := 5, cells := 0, slots := 0, locals := 280 }) (tp D cy ld t [] [.ref a0] (fun H => True)) (ti D cy ld t [] (fun r H => True) (tk_w t [(12, 0, 0), (20, 0, 0), (9, 0, 0)])) 0 0 (tk_w t [(12, 0, 0), (20, 0, 0), (9, 0, 0)]) := by sorry
theorem dX8_tireByWords_0 : decode cX8_tireByWords 0 = .ok (.aload_n 0, 1) := sorry
theorem dX8_tireByWords_1 : decode cX8_tireByWords 1 = .ok (.iconst 1, 1) := sorry
theorem dX8_tireByWords_2 : decode cX8_tireByWords 2 = .ok (.invokevirtual 45, 3) := sorry
theorem dX8_tireByWords_5 : decode cX8_tireByWords 5 = .ok (.ifCond .eq 15, 3) := sorry
theorem dX8_tireByWords_20 : decode cX8_tireByWords 20 = .ok (.aload_n 0, 1) := sorry
theorem dX8_tireByWords_21 : decode cX8_tireByWords 21 = .ok (.getfield 12, 3) := sorry
theorem dX8_tireByWords_24 : decode cX8_tireByWords 24 = .ok (.getfield 48, 3) := sorry
theorem dX8_tireByWords_27 : decode cX8_tireByWords 27 = .ok (.iconst 1, 1) := sorry
theorem dX8_tireByWords_28 : decode cX8_tireByWords 28 = .ok (.iaload, 1) := sorry
theorem dX8_tireByWords_29 : decode cX8_tireByWords 29 = .ok (.iconst 4, 1) := sorry
theorem dX8_tireByWords_30 : decode cX8_tireByWords 30 = .ok (.idiv, 1) := sorry
theorem dX8_tireByWords_31 : decode cX8_tireByWords 31 = .ok (.ireturn, 1) := sorry
theorem dX8_tireByWords_8 : decode cX8_tireByWords 8 = .ok (.aload_n 0, 1) := sorry
theorem dX8_tireByWords_9 : decode cX8_tireByWords 9 = .ok (.getfield 67, 3) := sorry
theorem dX8_tireByWords_12 : decode cX8_tireByWords 12 = .ok (.bipush 99, 2) := sorry
theorem dX8_tireByWords_14 : decode cX8_tireByWords 14 = .ok (.invokestatic 70, 3) := sorry
theorem dX8_tireByWords_17 : decode cX8_tireByWords 17 = .ok (.goto 14, 3) := sorry
set_option maxHeartbeats 4000000 in
set_option maxRecDepth 100000 in
theorem k_X8_tireByWords (l : Launch) (D : va_G) (cy : Nat → ClassId) (ld : Nat → Nat) (t : tk_T) (a0 : Nat) (ht_a0 : t a0 = (9, 0, 0)) : Met l yX8_tireByWords (wl yX8_tireByWords cX8_tireByWords 1 (some .int)) ({ frames := 5, cells := 0, slots := 0, locals := 280 }) (tp D cy ld t [] [.ref a0] (fun H => True)) (ti D cy ld t [] (fun r H => True) (tk_w t [(12, 0, 0), (20, 0, 0), (9, 0, 0)])) 0 0 (tk_w t [(12, 0, 0), (20, 0, 0), (9, 0, 0)]) := by sorry
theorem dX9_closeDuel_0 : decode cX9_closeDuel 0 = .ok (.aload_n 0, 1) := sorry
theorem dX9_closeDuel_1 : decode cX9_closeDuel 1 = .ok (.iconst (-1), 1) := sorry
theorem dX9_closeDuel_2 : decode cX9_closeDuel 2 = .ok (.putfield 24, 3) := sorry
theorem dX9_closeDuel_5 : decode cX9_closeDuel 5 = .ok (.aload_n 0, 1) := sorry
theorem dX9_closeDuel_6 : decode cX9_closeDuel 6 = .ok (.iconst (-1), 1) := sorry
theorem dX9_closeDuel_7 : decode cX9_closeDuel 7 = .ok (.putfield 28, 3) := sorry
theorem dX9_closeDuel_10 : decode cX9_closeDuel 10 = .ok (.return_, 1) := sorry
set_option maxHeartbeats 4000000 in
set_option maxRecDepth 100000 in
theorem k_X9_closeDuel (l : Launch) (D : va_G) (cy : Nat → ClassId) (ld : Nat → Nat) (t : tk_T) (rg0 : Nat) (a0 : Nat) (ht_a0 : t a0 = (10, 0, rg0)) : Met l yX9_closeDuel (wl yX9_closeDuel cX9_closeDuel 1 none) ({ frames := 3, cells := 0, slots := 0, locals := 140 }) (tp D cy ld t [] [.ref a0] (fun H => True)) (tv D cy ld t [] (fun H => tk_f D H a0 9 5 (.int (-1))) (tk_w t [(10, rg0, rg0)])) 0 0 (tk_w t [(10, rg0, rg0)]) := by sorry
theorem dX9_moveCows_0 : decode cX9_moveCows 0 = .ok (.aload_n 0, 1) := sorry
theorem dX9_moveCows_1 : decode cX9_moveCows 1 = .ok (.getfield 21, 3) := sorry
theorem dX9_moveCows_4 : decode cX9_moveCows 4 = .ok (.iload_n 1, 1) := sorry
theorem dX9_moveCows_5 : decode cX9_moveCows 5 = .ok (.sipush 9999, 3) := sorry
theorem dX9_moveCows_8 : decode cX9_moveCows 8 = .ok (.aload_n 0, 1) := sorry
theorem dX9_moveCows_9 : decode cX9_moveCows 9 = .ok (.getfield 21, 3) := sorry
theorem dX9_moveCows_12 : decode cX9_moveCows 12 = .ok (.iload_n 1, 1) := sorry
theorem dX9_moveCows_13 : decode cX9_moveCows 13 = .ok (.iaload, 1) := sorry
theorem dX9_moveCows_14 : decode cX9_moveCows 14 = .ok (.aload_n 0, 1) := sorry
theorem dX9_moveCows_15 : decode cX9_moveCows 15 = .ok (.getfield 43, 3) := sorry
theorem dX9_moveCows_18 : decode cX9_moveCows 18 = .ok (.iadd, 1) := sorry
theorem dX9_moveCows_19 : decode cX9_moveCows 19 = .ok (.invokestatic 56, 3) := sorry
theorem dX9_moveCows_22 : decode cX9_moveCows 22 = .ok (.iastore, 1) := sorry
theorem dX9_moveCows_23 : decode cX9_moveCows 23 = .ok (.aload_n 0, 1) := sorry
theorem dX9_moveCows_24 : decode cX9_moveCows 24 = .ok (.getfield 21, 3) := sorry
theorem dX9_moveCows_27 : decode cX9_moveCows 27 = .ok (.iload_n 2, 1) := sorry
theorem dX9_moveCows_28 : decode cX9_moveCows 28 = .ok (.iconst 0, 1) := sorry
theorem dX9_moveCows_29 : decode cX9_moveCows 29 = .ok (.aload_n 0, 1) := sorry
theorem dX9_moveCows_30 : decode cX9_moveCows 30 = .ok (.getfield 21, 3) := sorry
theorem dX9_moveCows_33 : decode cX9_moveCows 33 = .ok (.iload_n 2, 1) := sorry
theorem dX9_moveCows_34 : decode cX9_moveCows 34 = .ok (.iaload, 1) := sorry
theorem dX9_moveCows_35 : decode cX9_moveCows 35 = .ok (.aload_n 0, 1) := sorry
theorem dX9_moveCows_36 : decode cX9_moveCows 36 = .ok (.getfield 43, 3) := sorry
theorem dX9_moveCows_39 : decode cX9_moveCows 39 = .ok (.isub, 1) := sorry
theorem dX9_moveCows_40 : decode cX9_moveCows 40 = .ok (.invokestatic 62, 3) := sorry
theorem dX9_moveCows_43 : decode cX9_moveCows 43 = .ok (.iastore, 1) := sorry
theorem dX9_moveCows_44 : decode cX9_moveCows 44 = .ok (.return_, 1) := sorry
set_option maxHeartbeats 4000000 in
set_option maxRecDepth 100000 in
theorem k_X9_moveCows (l : Launch) (D : va_G) (cy : Nat → ClassId) (ld : Nat → Nat) (t : tk_T) (rg0 : Nat) (a0 : Nat) (p1 : Int32) (p2 : Int32) (ht_a0 : t a0 = (10, 0, rg0)) (hp_0 : 0 ≤ p1.toInt) (hp_1 : p1.toInt ≤ 1) (hp_2 : 0 ≤ p2.toInt) (hp_3 : p2.toInt ≤ 1) : Met l yX9_moveCows (wl yX9_moveCows cX9_moveCows 3 none) ({ frames := 4, cells := 0, slots := 0, locals := 210 }) (tp D cy ld t [] [.ref a0, .int p1, .int p2] (fun H => True)) (tv D cy ld t [] (fun H => True) (tk_w t [(20, rg0, rg0)])) 0 0 (tk_w t [(20, rg0, rg0)]) := by sorry
theorem dX9_passTurn_0 : decode cX9_passTurn 0 = .ok (.aload_n 0, 1) := sorry
theorem dX9_passTurn_1 : decode cX9_passTurn 1 = .ok (.getfield 49, 3) := sorry
theorem dX9_passTurn_17 : decode cX9_passTurn 17 = .ok (.aload_n 0, 1) := sorry
theorem dX9_passTurn_18 : decode cX9_passTurn 18 = .ok (.aload_n 0, 1) := sorry
theorem dX9_passTurn_19 : decode cX9_passTurn 19 = .ok (.getfield 49, 3) := sorry
theorem dX9_passTurn_30 : decode cX9_passTurn 30 = .ok (.putfield 49, 3) := sorry
theorem dX9_passTurn_33 : decode cX9_passTurn 33 = .ok (.aload_n 0, 1) := sorry
theorem dX9_passTurn_34 : decode cX9_passTurn 34 = .ok (.getfield 46, 3) := sorry
theorem dX9_passTurn_37 : decode cX9_passTurn 37 = .ok (.bipush 12, 2) := sorry
theorem dX9_passTurn_39 : decode cX9_passTurn 39 = .ok (.if_icmp .lt 7, 3) := sorry
theorem dX9_passTurn_46 : decode cX9_passTurn 46 = .ok (.return_, 1) := sorry
theorem dX9_passTurn_42 : decode cX9_passTurn 42 = .ok (.aload_n 0, 1) := sorry
theorem dX9_passTurn_43 : decode cX9_passTurn 43 = .ok (.invokevirtual 53, 3) := sorry
theorem dX9_passTurn_22 : decode cX9_passTurn 22 = .ok (.ifCond .ne 7, 3) := sorry
theorem dX9_passTurn_29 : decode cX9_passTurn 29 = .ok (.iconst 0, 1) := sorry
theorem dX9_passTurn_25 : decode cX9_passTurn 25 = .ok (.iconst 1, 1) := sorry
theorem dX9_passTurn_26 : decode cX9_passTurn 26 = .ok (.goto 4, 3) := sorry
theorem dX9_passTurn_4 : decode cX9_passTurn 4 = .ok (.ifCond .eq 13, 3) := sorry
theorem dX9_passTurn_7 : decode cX9_passTurn 7 = .ok (.aload_n 0, 1) := sorry
theorem dX9_passTurn_8 : decode cX9_passTurn 8 = .ok (.dup, 1) := sorry
theorem dX9_passTurn_9 : decode cX9_passTurn 9 = .ok (.getfield 46, 3) := sorry
theorem dX9_passTurn_12 : decode cX9_passTurn 12 = .ok (.iconst 1, 1) := sorry
theorem dX9_passTurn_13 : decode cX9_passTurn 13 = .ok (.iadd, 1) := sorry
theorem dX9_passTurn_14 : decode cX9_passTurn 14 = .ok (.putfield 46, 3) := sorry
set_option maxHeartbeats 4000000 in
set_option maxRecDepth 100000 in
theorem k_X9_passTurn (l : Launch) (D : va_G) (cy : Nat → ClassId) (ld : Nat → Nat) (t : tk_T) (rg0 : Nat) (a0 : Nat) (ht_a0 : t a0 = (10, 0, rg0)) : Met l yX9_passTurn (wl yX9_passTurn cX9_passTurn 1 none) ({ frames := 4, cells := 0, slots := 0, locals := 210 }) (tp D cy ld t [] [.ref a0] (fun H => True)) (tv D cy ld t [] (fun H => True) (tk_w t [(10, rg0, rg0)])) 0 0 (tk_w t [(10, rg0, rg0)]) := by sorry
theorem dX8_singOn_0 : decode cX8_singOn 0 = .ok (.aload_n 0, 1) := sorry
theorem dX8_singOn_1 : decode cX8_singOn 1 = .ok (.aload_n 1, 1) := sorry
theorem dX8_singOn_2 : decode cX8_singOn 2 = .ok (.iload_n 2, 1) := sorry
theorem dX8_singOn_3 : decode cX8_singOn 3 = .ok (.invokevirtual 22, 3) := sorry
theorem dX8_singOn_6 : decode cX8_singOn 6 = .ok (.aload_n 0, 1) := sorry
theorem dX8_singOn_7 : decode cX8_singOn 7 = .ok (.invokevirtual 26, 3) := sorry
theorem dX8_singOn_10 : decode cX8_singOn 10 = .ok (.istore_n 3, 1) := sorry
theorem dX8_singOn_11 : decode cX8_singOn 11 = .ok (.aload_n 0, 1) := sorry
theorem dX8_singOn_12 : decode cX8_singOn 12 = .ok (.invokevirtual 30, 3) := sorry
theorem dX8_singOn_15 : decode cX8_singOn 15 = .ok (.istore 4, 2) := sorry
theorem dX8_singOn_17 : decode cX8_singOn 17 = .ok (.aload_n 1, 1) := sorry
theorem dX8_singOn_18 : decode cX8_singOn 18 = .ok (.invokevirtual 86, 3) := sorry
theorem dX8_singOn_21 : decode cX8_singOn 21 = .ok (.istore 5, 2) := sorry
theorem dX8_singOn_23 : decode cX8_singOn 23 = .ok (.aload_n 1, 1) := sorry
theorem dX8_singOn_24 : decode cX8_singOn 24 = .ok (.invokevirtual 89, 3) := sorry
theorem dX8_singOn_27 : decode cX8_singOn 27 = .ok (.istore 6, 2) := sorry
theorem dX8_singOn_29 : decode cX8_singOn 29 = .ok (.aload_n 1, 1) := sorry
theorem dX8_singOn_30 : decode cX8_singOn 30 = .ok (.getfield 55, 3) := sorry
theorem dX8_singOn_33 : decode cX8_singOn 33 = .ok (.iload 6, 2) := sorry
theorem dX8_singOn_35 : decode cX8_singOn 35 = .ok (.iconst 0, 1) := sorry
theorem dX8_singOn_36 : decode cX8_singOn 36 = .ok (.aload_n 1, 1) := sorry
theorem dX8_singOn_37 : decode cX8_singOn 37 = .ok (.getfield 55, 3) := sorry
theorem dX8_singOn_40 : decode cX8_singOn 40 = .ok (.iload 6, 2) := sorry
theorem dX8_singOn_42 : decode cX8_singOn 42 = .ok (.iaload, 1) := sorry
theorem dX8_singOn_43 : decode cX8_singOn 43 = .ok (.iload_n 3, 1) := sorry
theorem dX8_singOn_44 : decode cX8_singOn 44 = .ok (.isub, 1) := sorry
theorem dX8_singOn_45 : decode cX8_singOn 45 = .ok (.invokestatic 92, 3) := sorry
theorem dX8_singOn_48 : decode cX8_singOn 48 = .ok (.iastore, 1) := sorry
theorem dX8_singOn_49 : decode cX8_singOn 49 = .ok (.iload_n 3, 1) := sorry
theorem dX8_singOn_50 : decode cX8_singOn 50 = .ok (.aload_n 0, 1) := sorry
theorem dX8_singOn_51 : decode cX8_singOn 51 = .ok (.getfield 18, 3) := sorry
theorem dX8_singOn_54 : decode cX8_singOn 54 = .ok (.getfield 97, 3) := sorry
theorem dX8_singOn_71 : decode cX8_singOn 71 = .ok (.aload_n 1, 1) := sorry
theorem dX8_singOn_72 : decode cX8_singOn 72 = .ok (.getfield 55, 3) := sorry
theorem dX8_singOn_75 : decode cX8_singOn 75 = .ok (.iload 5, 2) := sorry
theorem dX8_singOn_77 : decode cX8_singOn 77 = .ok (.iconst 1, 1) := sorry
theorem dX8_singOn_78 : decode cX8_singOn 78 = .ok (.aload_n 1, 1) := sorry
theorem dX8_singOn_79 : decode cX8_singOn 79 = .ok (.getfield 55, 3) := sorry
theorem dX8_singOn_82 : decode cX8_singOn 82 = .ok (.iload 5, 2) := sorry
theorem dX8_singOn_84 : decode cX8_singOn 84 = .ok (.iaload, 1) := sorry
theorem dX8_singOn_85 : decode cX8_singOn 85 = .ok (.iload 4, 2) := sorry
theorem dX8_singOn_87 : decode cX8_singOn 87 = .ok (.isub, 1) := sorry
theorem dX8_singOn_88 : decode cX8_singOn 88 = .ok (.invokestatic 92, 3) := sorry
theorem dX8_singOn_91 : decode cX8_singOn 91 = .ok (.iastore, 1) := sorry
theorem dX8_singOn_92 : decode cX8_singOn 92 = .ok (.aload_n 1, 1) := sorry
theorem dX8_singOn_93 : decode cX8_singOn 93 = .ok (.aload_n 0, 1) := sorry
theorem dX8_singOn_94 : decode cX8_singOn 94 = .ok (.getfield 18, 3) := sorry
theorem dX8_singOn_97 : decode cX8_singOn 97 = .ok (.getfield 103, 3) := sorry
theorem dX8_singOn_100 : decode cX8_singOn 100 = .ok (.iload_n 2, 1) := sorry
theorem dX8_singOn_101 : decode cX8_singOn 101 = .ok (.iaload, 1) := sorry
theorem dX8_singOn_102 : decode cX8_singOn 102 = .ok (.putfield 106, 3) := sorry
theorem dX8_singOn_105 : decode cX8_singOn 105 = .ok (.aload_n 1, 1) := sorry
theorem dX8_singOn_106 : decode cX8_singOn 106 = .ok (.getfield 55, 3) := sorry
theorem dX8_singOn_109 : decode cX8_singOn 109 = .ok (.iload 6, 2) := sorry
theorem dX8_singOn_111 : decode cX8_singOn 111 = .ok (.iaload, 1) := sorry
theorem dX8_singOn_158 : decode cX8_singOn 158 = .ok (.aload_n 1, 1) := sorry
theorem dX8_singOn_159 : decode cX8_singOn 159 = .ok (.getfield 55, 3) := sorry
theorem dX8_singOn_162 : decode cX8_singOn 162 = .ok (.iload 6, 2) := sorry
theorem dX8_singOn_164 : decode cX8_singOn 164 = .ok (.iaload, 1) := sorry
theorem dX8_singOn_165 : decode cX8_singOn 165 = .ok (.ireturn, 1) := sorry
theorem dX8_singOn_112 : decode cX8_singOn 112 = .ok (.ifCond .ne 42, 3) := sorry
theorem dX8_singOn_154 : decode cX8_singOn 154 = .ok (.aload_n 1, 1) := sorry
theorem dX8_singOn_155 : decode cX8_singOn 155 = .ok (.invokevirtual 122, 3) := sorry
theorem dX8_singOn_115 : decode cX8_singOn 115 = .ok (.aload_n 1, 1) := sorry
theorem dX8_singOn_116 : decode cX8_singOn 116 = .ok (.getfield 109, 3) := sorry
theorem dX8_singOn_119 : decode cX8_singOn 119 = .ok (.iload 6, 2) := sorry
theorem dX8_singOn_121 : decode cX8_singOn 121 = .ok (.iconst 1, 1) := sorry
theorem dX8_singOn_122 : decode cX8_singOn 122 = .ok (.iastore, 1) := sorry
theorem dX8_singOn_123 : decode cX8_singOn 123 = .ok (.aload_n 1, 1) := sorry
theorem dX8_singOn_124 : decode cX8_singOn 124 = .ok (.aload_n 0, 1) := sorry
theorem dX8_singOn_125 : decode cX8_singOn 125 = .ok (.getfield 18, 3) := sorry
theorem dX8_singOn_128 : decode cX8_singOn 128 = .ok (.getfield 112, 3) := sorry
theorem dX8_singOn_131 : decode cX8_singOn 131 = .ok (.iload 5, 2) := sorry
theorem dX8_singOn_133 : decode cX8_singOn 133 = .ok (.iaload, 1) := sorry
theorem dX8_singOn_134 : decode cX8_singOn 134 = .ok (.aload_n 0, 1) := sorry
theorem dX8_singOn_135 : decode cX8_singOn 135 = .ok (.getfield 18, 3) := sorry
theorem dX8_singOn_138 : decode cX8_singOn 138 = .ok (.getfield 112, 3) := sorry
theorem dX8_singOn_141 : decode cX8_singOn 141 = .ok (.iload 6, 2) := sorry
theorem dX8_singOn_143 : decode cX8_singOn 143 = .ok (.iaload, 1) := sorry
theorem dX8_singOn_144 : decode cX8_singOn 144 = .ok (.invokevirtual 115, 3) := sorry
theorem dX8_singOn_147 : decode cX8_singOn 147 = .ok (.aload_n 1, 1) := sorry
theorem dX8_singOn_148 : decode cX8_singOn 148 = .ok (.invokevirtual 119, 3) := sorry
theorem dX8_singOn_151 : decode cX8_singOn 151 = .ok (.goto 7, 3) := sorry
theorem dX8_singOn_57 : decode cX8_singOn 57 = .ok (.if_icmp .lt 14, 3) := sorry
theorem dX8_singOn_60 : decode cX8_singOn 60 = .ok (.aload_n 1, 1) := sorry
theorem dX8_singOn_61 : decode cX8_singOn 61 = .ok (.getfield 100, 3) := sorry
theorem dX8_singOn_64 : decode cX8_singOn 64 = .ok (.iload 6, 2) := sorry
theorem dX8_singOn_66 : decode cX8_singOn 66 = .ok (.dup2, 1) := sorry
theorem dX8_singOn_67 : decode cX8_singOn 67 = .ok (.iaload, 1) := sorry
theorem dX8_singOn_68 : decode cX8_singOn 68 = .ok (.iconst 1, 1) := sorry
theorem dX8_singOn_69 : decode cX8_singOn 69 = .ok (.iadd, 1) := sorry
theorem dX8_singOn_70 : decode cX8_singOn 70 = .ok (.iastore, 1) := sorry
set_option maxHeartbeats 4000000 in
set_option maxRecDepth 100000 in
theorem k_X8_singOn (l : Launch) (D : va_G) (cy : Nat → ClassId) (ld : Nat → Nat) (t : tk_T) (rg1 : Nat) (a0 : Nat) (a1 : Nat) (p2 : Int32) (g0 : Int32) (ht_a0 : t a0 = (9, 0, 0)) (ht_a1 : t a1 = (10, 0, rg1)) (hp_0 : 0 ≤ p2.toInt) (hp_1 : p2.toInt ≤ 9) (hp_2 : 0 ≤ g0.toInt) (hp_3 : g0.toInt ≤ 7) : Met l yX8_singOn (wl yX8_singOn cX8_singOn 7 (some .int)) ({ frames := 6, cells := 0, slots := 0, locals := 350 }) (tp D cy ld t [] [.ref a0, .ref a1, .int p2] (fun H => tk_f D H a1 9 5 (.int g0))) (ti D cy ld t [] (fun r H => True) (tk_w t [(20, 0, 0), (12, 0, 0), (9, 0, 0), (20, rg1, rg1), (10, rg1, rg1)])) 0 0 (tk_w t [(20, 0, 0), (12, 0, 0), (9, 0, 0), (20, rg1, rg1), (10, rg1, rg1)]) := by sorry
theorem dX9_isDuel_0 : decode cX9_isDuel 0 = .ok (.aload_n 0, 1) := sorry
theorem dX9_isDuel_1 : decode cX9_isDuel 1 = .ok (.getfield 24, 3) := sorry
theorem dX9_isDuel_4 : decode cX9_isDuel 4 = .ok (.iconst (-1), 1) := sorry
theorem dX9_isDuel_5 : decode cX9_isDuel 5 = .ok (.if_icmp .eq 7, 3) := sorry
theorem dX9_isDuel_12 : decode cX9_isDuel 12 = .ok (.iconst 0, 1) := sorry
theorem dX9_isDuel_13 : decode cX9_isDuel 13 = .ok (.ireturn, 1) := sorry
theorem dX9_isDuel_8 : decode cX9_isDuel 8 = .ok (.iconst 1, 1) := sorry
theorem dX9_isDuel_9 : decode cX9_isDuel 9 = .ok (.goto 4, 3) := sorry
set_option maxHeartbeats 4000000 in
set_option maxRecDepth 100000 in
theorem k_X9_isDuel (l : Launch) (D : va_G) (cy : Nat → ClassId) (ld : Nat → Nat) (t : tk_T) (rg0 : Nat) (a0 : Nat) (g0 : Int32) (ht_a0 : t a0 = (10, 0, rg0)) (hp_0 : (-1) ≤ g0.toInt) (hp_1 : g0.toInt ≤ 7) : Met l yX9_isDuel (wl yX9_isDuel cX9_isDuel 1 (some .boolean)) ({ frames := 3, cells := 0, slots := 0, locals := 140 }) (tp D cy ld t [] [.ref a0] (fun H => tk_f D H a0 9 5 (.int g0))) (ti D cy ld t [] (fun r H => (1 ≤ r.toInt → 0 ≤ g0.toInt) ∧ 0 ≤ r.toInt ∧ r.toInt ≤ 1 ∧ 0 ≤ r.toInt ∧ r.toInt ≤ 1) (tk_w t [])) 0 0 (tk_w t []) := by sorry
theorem dX9_openDuel_0 : decode cX9_openDuel 0 = .ok (.aload_n 0, 1) := sorry
theorem dX9_openDuel_1 : decode cX9_openDuel 1 = .ok (.iload_n 1, 1) := sorry
theorem dX9_openDuel_2 : decode cX9_openDuel 2 = .ok (.putfield 24, 3) := sorry
theorem dX9_openDuel_5 : decode cX9_openDuel 5 = .ok (.aload_n 0, 1) := sorry
theorem dX9_openDuel_6 : decode cX9_openDuel 6 = .ok (.iload_n 2, 1) := sorry
theorem dX9_openDuel_7 : decode cX9_openDuel 7 = .ok (.putfield 28, 3) := sorry
theorem dX9_openDuel_10 : decode cX9_openDuel 10 = .ok (.aload_n 0, 1) := sorry
theorem dX9_openDuel_11 : decode cX9_openDuel 11 = .ok (.iload_n 3, 1) := sorry
theorem dX9_openDuel_12 : decode cX9_openDuel 12 = .ok (.putfield 43, 3) := sorry
theorem dX9_openDuel_15 : decode cX9_openDuel 15 = .ok (.aload_n 0, 1) := sorry
theorem dX9_openDuel_16 : decode cX9_openDuel 16 = .ok (.iconst 0, 1) := sorry
theorem dX9_openDuel_17 : decode cX9_openDuel 17 = .ok (.putfield 46, 3) := sorry
theorem dX9_openDuel_20 : decode cX9_openDuel 20 = .ok (.aload_n 0, 1) := sorry
theorem dX9_openDuel_21 : decode cX9_openDuel 21 = .ok (.iconst 0, 1) := sorry
theorem dX9_openDuel_22 : decode cX9_openDuel 22 = .ok (.putfield 49, 3) := sorry
theorem dX9_openDuel_25 : decode cX9_openDuel 25 = .ok (.aload_n 0, 1) := sorry
theorem dX9_openDuel_26 : decode cX9_openDuel 26 = .ok (.iconst (-1), 1) := sorry
theorem dX9_openDuel_27 : decode cX9_openDuel 27 = .ok (.putfield 31, 3) := sorry
theorem dX9_openDuel_30 : decode cX9_openDuel 30 = .ok (.return_, 1) := sorry
set_option maxHeartbeats 4000000 in
set_option maxRecDepth 100000 in
theorem k_X9_openDuel (l : Launch) (D : va_G) (cy : Nat → ClassId) (ld : Nat → Nat) (t : tk_T) (rg0 : Nat) (a0 : Nat) (p1 : Int32) (p2 : Int32) (p3 : Int32) (ht_a0 : t a0 = (10, 0, rg0)) (hp_0 : 0 ≤ p1.toInt) (hp_1 : p1.toInt ≤ 7) (hp_2 : 0 ≤ p2.toInt) (hp_3 : p2.toInt ≤ 7) : Met l yX9_openDuel (wl yX9_openDuel cX9_openDuel 4 none) ({ frames := 3, cells := 0, slots := 0, locals := 140 }) (tp D cy ld t [] [.ref a0, .int p1, .int p2, .int p3] (fun H => True)) (tv D cy ld t [] (fun H => tk_f D H a0 9 5 (.int p1)) (tk_w t [(10, rg0, rg0)])) 0 0 (tk_w t [(10, rg0, rg0)]) := by sorry
theorem dX0_singDay_0 : decode cX0_singDay 0 = .ok (.aload_n 0, 1) := sorry
theorem dX0_singDay_1 : decode cX0_singDay 1 = .ok (.iconst 0, 1) := sorry
theorem dX0_singDay_2 : decode cX0_singDay 2 = .ok (.aload_n 0, 1) := sorry
theorem dX0_singDay_3 : decode cX0_singDay 3 = .ok (.aload_n 0, 1) := sorry
theorem dX0_singDay_4 : decode cX0_singDay 4 = .ok (.getfield 25, 3) := sorry
theorem dX0_singDay_7 : decode cX0_singDay 7 = .ok (.iconst 0, 1) := sorry
theorem dX0_singDay_8 : decode cX0_singDay 8 = .ok (.invokevirtual 76, 3) := sorry
theorem dX0_singDay_11 : decode cX0_singDay 11 = .ok (.invokevirtual 80, 3) := sorry
theorem dX0_singDay_14 : decode cX0_singDay 14 = .ok (.invokevirtual 83, 3) := sorry
theorem dX0_singDay_17 : decode cX0_singDay 17 = .ok (.istore_n 1, 1) := sorry
theorem dX0_singDay_18 : decode cX0_singDay 18 = .ok (.aload_n 0, 1) := sorry
theorem dX0_singDay_19 : decode cX0_singDay 19 = .ok (.iconst 1, 1) := sorry
theorem dX0_singDay_20 : decode cX0_singDay 20 = .ok (.aload_n 0, 1) := sorry
theorem dX0_singDay_21 : decode cX0_singDay 21 = .ok (.aload_n 0, 1) := sorry
theorem dX0_singDay_22 : decode cX0_singDay 22 = .ok (.getfield 25, 3) := sorry
theorem dX0_singDay_25 : decode cX0_singDay 25 = .ok (.iconst 1, 1) := sorry
theorem dX0_singDay_26 : decode cX0_singDay 26 = .ok (.invokevirtual 76, 3) := sorry
theorem dX0_singDay_29 : decode cX0_singDay 29 = .ok (.invokevirtual 80, 3) := sorry
theorem dX0_singDay_32 : decode cX0_singDay 32 = .ok (.invokevirtual 83, 3) := sorry
theorem dX0_singDay_35 : decode cX0_singDay 35 = .ok (.istore_n 2, 1) := sorry
theorem dX0_singDay_36 : decode cX0_singDay 36 = .ok (.aload_n 0, 1) := sorry
theorem dX0_singDay_37 : decode cX0_singDay 37 = .ok (.bipush 20, 2) := sorry
theorem dX0_singDay_39 : decode cX0_singDay 39 = .ok (.invokevirtual 80, 3) := sorry
theorem dX0_singDay_42 : decode cX0_singDay 42 = .ok (.iconst 1, 1) := sorry
theorem dX0_singDay_43 : decode cX0_singDay 43 = .ok (.iadd, 1) := sorry
theorem dX0_singDay_44 : decode cX0_singDay 44 = .ok (.istore_n 3, 1) := sorry
theorem dX0_singDay_45 : decode cX0_singDay 45 = .ok (.iload_n 1, 1) := sorry
theorem dX0_singDay_46 : decode cX0_singDay 46 = .ok (.iconst (-1), 1) := sorry
theorem dX0_singDay_47 : decode cX0_singDay 47 = .ok (.if_icmp .eq 32, 3) := sorry
theorem dX0_singDay_79 : decode cX0_singDay 79 = .ok (.iconst 0, 1) := sorry
theorem dX0_singDay_80 : decode cX0_singDay 80 = .ok (.ireturn, 1) := sorry
theorem dX0_singDay_50 : decode cX0_singDay 50 = .ok (.iload_n 2, 1) := sorry
theorem dX0_singDay_51 : decode cX0_singDay 51 = .ok (.iconst (-1), 1) := sorry
theorem dX0_singDay_52 : decode cX0_singDay 52 = .ok (.if_icmp .eq 27, 3) := sorry
theorem dX0_singDay_55 : decode cX0_singDay 55 = .ok (.aload_n 0, 1) := sorry
theorem dX0_singDay_56 : decode cX0_singDay 56 = .ok (.getfield 12, 3) := sorry
theorem dX0_singDay_59 : decode cX0_singDay 59 = .ok (.getfield 87, 3) := sorry
theorem dX0_singDay_62 : decode cX0_singDay 62 = .ok (.iload_n 1, 1) := sorry
theorem dX0_singDay_63 : decode cX0_singDay 63 = .ok (.iaload, 1) := sorry
theorem dX0_singDay_64 : decode cX0_singDay 64 = .ok (.ifCond .eq 15, 3) := sorry
theorem dX0_singDay_67 : decode cX0_singDay 67 = .ok (.aload_n 0, 1) := sorry
theorem dX0_singDay_68 : decode cX0_singDay 68 = .ok (.getfield 12, 3) := sorry
theorem dX0_singDay_71 : decode cX0_singDay 71 = .ok (.getfield 87, 3) := sorry
theorem dX0_singDay_74 : decode cX0_singDay 74 = .ok (.iload_n 2, 1) := sorry
theorem dX0_singDay_75 : decode cX0_singDay 75 = .ok (.iaload, 1) := sorry
theorem dX0_singDay_76 : decode cX0_singDay 76 = .ok (.ifCond .ne 5, 3) := sorry
theorem dX0_singDay_81 : decode cX0_singDay 81 = .ok (.aload_n 0, 1) := sorry
theorem dX0_singDay_82 : decode cX0_singDay 82 = .ok (.getfield 12, 3) := sorry
theorem dX0_singDay_85 : decode cX0_singDay 85 = .ok (.iload_n 1, 1) := sorry
theorem dX0_singDay_86 : decode cX0_singDay 86 = .ok (.iload_n 2, 1) := sorry
theorem dX0_singDay_87 : decode cX0_singDay 87 = .ok (.iload_n 3, 1) := sorry
theorem dX0_singDay_88 : decode cX0_singDay 88 = .ok (.invokevirtual 90, 3) := sorry
theorem dX0_singDay_91 : decode cX0_singDay 91 = .ok (.iconst 0, 1) := sorry
theorem dX0_singDay_92 : decode cX0_singDay 92 = .ok (.istore 4, 2) := sorry
theorem dX0_singDay_94 : decode cX0_singDay 94 = .ok (.iload 4, 2) := sorry
theorem dX0_singDay_96 : decode cX0_singDay 96 = .ok (.bipush 24, 2) := sorry
theorem dX0_singDay_98 : decode cX0_singDay 98 = .ok (.if_icmp .ge 90, 3) := sorry
theorem dX0_singDay_188 : decode cX0_singDay 188 = .ok (.aload_n 0, 1) := sorry
theorem dX0_singDay_189 : decode cX0_singDay 189 = .ok (.getfield 12, 3) := sorry
theorem dX0_singDay_192 : decode cX0_singDay 192 = .ok (.invokevirtual 48, 3) := sorry
theorem dX0_singDay_195 : decode cX0_singDay 195 = .ok (.iconst 0, 1) := sorry
theorem dX0_singDay_196 : decode cX0_singDay 196 = .ok (.ireturn, 1) := sorry
theorem dX0_singDay_101 : decode cX0_singDay 101 = .ok (.aload_n 0, 1) := sorry
theorem dX0_singDay_102 : decode cX0_singDay 102 = .ok (.getfield 12, 3) := sorry
theorem dX0_singDay_105 : decode cX0_singDay 105 = .ok (.invokevirtual 94, 3) := sorry
theorem dX0_singDay_108 : decode cX0_singDay 108 = .ok (.ifCond .eq 80, 3) := sorry
theorem dX0_singDay_111 : decode cX0_singDay 111 = .ok (.aload_n 0, 1) := sorry
theorem dX0_singDay_112 : decode cX0_singDay 112 = .ok (.getfield 12, 3) := sorry
theorem dX0_singDay_115 : decode cX0_singDay 115 = .ok (.invokevirtual 98, 3) := sorry
theorem dX0_singDay_118 : decode cX0_singDay 118 = .ok (.istore 5, 2) := sorry
theorem dX0_singDay_120 : decode cX0_singDay 120 = .ok (.aload_n 0, 1) := sorry
theorem dX0_singDay_121 : decode cX0_singDay 121 = .ok (.invokevirtual 101, 3) := sorry
theorem dX0_singDay_124 : decode cX0_singDay 124 = .ok (.istore 6, 2) := sorry
theorem dX0_singDay_126 : decode cX0_singDay 126 = .ok (.iload 6, 2) := sorry
theorem dX0_singDay_128 : decode cX0_singDay 128 = .ok (.ifCond .ne 6, 3) := sorry
theorem dX0_singDay_134 : decode cX0_singDay 134 = .ok (.aload_n 0, 1) := sorry
theorem dX0_singDay_135 : decode cX0_singDay 135 = .ok (.getfield 29, 3) := sorry
theorem dX0_singDay_138 : decode cX0_singDay 138 = .ok (.aload_n 0, 1) := sorry
theorem dX0_singDay_139 : decode cX0_singDay 139 = .ok (.getfield 12, 3) := sorry
theorem dX0_singDay_142 : decode cX0_singDay 142 = .ok (.aload_n 0, 1) := sorry
theorem dX0_singDay_143 : decode cX0_singDay 143 = .ok (.getfield 22, 3) := sorry
theorem dX0_singDay_146 : decode cX0_singDay 146 = .ok (.aload_n 0, 1) := sorry
theorem dX0_singDay_147 : decode cX0_singDay 147 = .ok (.iload 6, 2) := sorry
theorem dX0_singDay_149 : decode cX0_singDay 149 = .ok (.invokevirtual 80, 3) := sorry
theorem dX0_singDay_152 : decode cX0_singDay 152 = .ok (.iaload, 1) := sorry
theorem dX0_singDay_153 : decode cX0_singDay 153 = .ok (.invokevirtual 104, 3) := sorry
theorem dX0_singDay_156 : decode cX0_singDay 156 = .ok (.ifCond .ne 26, 3) := sorry
theorem dX0_singDay_182 : decode cX0_singDay 182 = .ok (.iinc 4 1, 3) := sorry
theorem dX0_singDay_185 : decode cX0_singDay 185 = .ok (.goto (-91), 3) := sorry
theorem dX0_singDay_159 : decode cX0_singDay 159 = .ok (.aload_n 0, 1) := sorry
theorem dX0_singDay_160 : decode cX0_singDay 160 = .ok (.getfield 18, 3) := sorry
theorem dX0_singDay_163 : decode cX0_singDay 163 = .ok (.iload 5, 2) := sorry
theorem dX0_singDay_165 : decode cX0_singDay 165 = .ok (.dup2, 1) := sorry
theorem dX0_singDay_166 : decode cX0_singDay 166 = .ok (.iaload, 1) := sorry
theorem dX0_singDay_167 : decode cX0_singDay 167 = .ok (.iconst 1, 1) := sorry
theorem dX0_singDay_168 : decode cX0_singDay 168 = .ok (.iadd, 1) := sorry
theorem dX0_singDay_169 : decode cX0_singDay 169 = .ok (.iastore, 1) := sorry
theorem dX0_singDay_170 : decode cX0_singDay 170 = .ok (.iload 5, 2) := sorry
theorem dX0_singDay_172 : decode cX0_singDay 172 = .ok (.iload_n 2, 1) := sorry
theorem dX0_singDay_173 : decode cX0_singDay 173 = .ok (.if_icmp .ne 7, 3) := sorry
theorem dX0_singDay_180 : decode cX0_singDay 180 = .ok (.iconst 0, 1) := sorry
theorem dX0_singDay_181 : decode cX0_singDay 181 = .ok (.ireturn, 1) := sorry
theorem dX0_singDay_176 : decode cX0_singDay 176 = .ok (.iconst 1, 1) := sorry
theorem dX0_singDay_177 : decode cX0_singDay 177 = .ok (.goto 4, 3) := sorry
theorem dX0_singDay_131 : decode cX0_singDay 131 = .ok (.goto 57, 3) := sorry
set_option maxHeartbeats 4000000 in
set_option maxRecDepth 100000 in
theorem k_X0_singDay (l : Launch) (D : va_G) (cy : Nat → ClassId) (ld : Nat → Nat) (t : tk_T) (a0 : Nat) (ht_a0 : t a0 = (1, 0, 0)) : Met l yX0_singDay (wl yX0_singDay cX0_singDay 7 (some .int)) ({ frames := 7, cells := 0, slots := 0, locals := 420 }) (tp D cy ld t [] [.ref a0] (fun H => True)) (ti D cy ld t [] (fun r H => 0 ≤ r.toInt ∧ r.toInt ≤ 1) (tk_w t [(1, 0, 0), (10, 5, 5), (20, 0, 0), (12, 0, 0), (9, 0, 0), (22, 0, 0), (20, 5, 5)])) 0 0 (tk_w t [(1, 0, 0), (10, 5, 5), (20, 0, 0), (12, 0, 0), (9, 0, 0), (22, 0, 0), (20, 5, 5)]) := by sorry
end

section
theorem dX8_howWakes_0 : decode cX8_howWakes 0 = .ok (.aload_n 0, 1) := sorry
theorem dX8_howWakes_1 : decode cX8_howWakes 1 = .ok (.getfield 12, 3) := sorry
theorem dX8_howWakes_4 : decode cX8_howWakes 4 = .ok (.getfield 48, 3) := sorry
theorem dX8_howWakes_7 : decode cX8_howWakes 7 = .ok (.astore_n 3, 1) := sorry
theorem dX8_howWakes_8 : decode cX8_howWakes 8 = .ok (.aload_n 3, 1) := sorry
theorem dX8_howWakes_9 : decode cX8_howWakes 9 = .ok (.iconst 0, 1) := sorry
theorem dX8_howWakes_10 : decode cX8_howWakes 10 = .ok (.aload_n 0, 1) := sorry
theorem dX8_howWakes_11 : decode cX8_howWakes 11 = .ok (.getfield 18, 3) := sorry
theorem dX8_howWakes_14 : decode cX8_howWakes 14 = .ok (.getfield 52, 3) := sorry
theorem dX8_howWakes_17 : decode cX8_howWakes 17 = .ok (.iload_n 2, 1) := sorry
theorem dX8_howWakes_18 : decode cX8_howWakes 18 = .ok (.iaload, 1) := sorry
theorem dX8_howWakes_19 : decode cX8_howWakes 19 = .ok (.iastore, 1) := sorry
theorem dX8_howWakes_20 : decode cX8_howWakes 20 = .ok (.aload_n 3, 1) := sorry
theorem dX8_howWakes_21 : decode cX8_howWakes 21 = .ok (.iconst 1, 1) := sorry
theorem dX8_howWakes_22 : decode cX8_howWakes 22 = .ok (.iconst (-1), 1) := sorry
theorem dX8_howWakes_23 : decode cX8_howWakes 23 = .ok (.iastore, 1) := sorry
theorem dX8_howWakes_24 : decode cX8_howWakes 24 = .ok (.aload_n 3, 1) := sorry
theorem dX8_howWakes_25 : decode cX8_howWakes 25 = .ok (.iconst 2, 1) := sorry
theorem dX8_howWakes_26 : decode cX8_howWakes 26 = .ok (.iconst (-1), 1) := sorry
theorem dX8_howWakes_27 : decode cX8_howWakes 27 = .ok (.iastore, 1) := sorry
theorem dX8_howWakes_28 : decode cX8_howWakes 28 = .ok (.aload_n 3, 1) := sorry
theorem dX8_howWakes_29 : decode cX8_howWakes 29 = .ok (.iconst 3, 1) := sorry
theorem dX8_howWakes_30 : decode cX8_howWakes 30 = .ok (.iconst (-1), 1) := sorry
theorem dX8_howWakes_31 : decode cX8_howWakes 31 = .ok (.iastore, 1) := sorry
theorem dX8_howWakes_32 : decode cX8_howWakes 32 = .ok (.aload_n 3, 1) := sorry
theorem dX8_howWakes_33 : decode cX8_howWakes 33 = .ok (.iconst 4, 1) := sorry
theorem dX8_howWakes_34 : decode cX8_howWakes 34 = .ok (.iconst (-1), 1) := sorry
theorem dX8_howWakes_35 : decode cX8_howWakes 35 = .ok (.iastore, 1) := sorry
theorem dX8_howWakes_36 : decode cX8_howWakes 36 = .ok (.aload_n 3, 1) := sorry
theorem dX8_howWakes_37 : decode cX8_howWakes 37 = .ok (.iconst 5, 1) := sorry
theorem dX8_howWakes_38 : decode cX8_howWakes 38 = .ok (.aload_n 1, 1) := sorry
theorem dX8_howWakes_39 : decode cX8_howWakes 39 = .ok (.getfield 55, 3) := sorry
theorem dX8_howWakes_42 : decode cX8_howWakes 42 = .ok (.iload_n 2, 1) := sorry
theorem dX8_howWakes_43 : decode cX8_howWakes 43 = .ok (.iaload, 1) := sorry
theorem dX8_howWakes_44 : decode cX8_howWakes 44 = .ok (.iastore, 1) := sorry
theorem dX8_howWakes_45 : decode cX8_howWakes 45 = .ok (.aload_n 3, 1) := sorry
theorem dX8_howWakes_46 : decode cX8_howWakes 46 = .ok (.bipush 6, 2) := sorry
theorem dX8_howWakes_48 : decode cX8_howWakes 48 = .ok (.iconst (-1), 1) := sorry
theorem dX8_howWakes_49 : decode cX8_howWakes 49 = .ok (.iastore, 1) := sorry
theorem dX8_howWakes_50 : decode cX8_howWakes 50 = .ok (.aload_n 3, 1) := sorry
theorem dX8_howWakes_51 : decode cX8_howWakes 51 = .ok (.bipush 7, 2) := sorry
theorem dX8_howWakes_53 : decode cX8_howWakes 53 = .ok (.aload_n 1, 1) := sorry
theorem dX8_howWakes_54 : decode cX8_howWakes 54 = .ok (.getfield 60, 3) := sorry
theorem dX8_howWakes_57 : decode cX8_howWakes 57 = .ok (.iastore, 1) := sorry
theorem dX8_howWakes_58 : decode cX8_howWakes 58 = .ok (.aload_n 3, 1) := sorry
theorem dX8_howWakes_59 : decode cX8_howWakes 59 = .ok (.bipush 8, 2) := sorry
theorem dX8_howWakes_61 : decode cX8_howWakes 61 = .ok (.aload_n 0, 1) := sorry
theorem dX8_howWakes_62 : decode cX8_howWakes 62 = .ok (.getfield 18, 3) := sorry
theorem dX8_howWakes_65 : decode cX8_howWakes 65 = .ok (.getfield 64, 3) := sorry
theorem dX8_howWakes_68 : decode cX8_howWakes 68 = .ok (.iastore, 1) := sorry
theorem dX8_howWakes_69 : decode cX8_howWakes 69 = .ok (.aload_n 0, 1) := sorry
theorem dX8_howWakes_70 : decode cX8_howWakes 70 = .ok (.iconst 2, 1) := sorry
theorem dX8_howWakes_71 : decode cX8_howWakes 71 = .ok (.invokevirtual 45, 3) := sorry
theorem dX8_howWakes_74 : decode cX8_howWakes 74 = .ok (.ifCond .eq 16, 3) := sorry
theorem dX8_howWakes_90 : decode cX8_howWakes 90 = .ok (.bipush 100, 2) := sorry
theorem dX8_howWakes_92 : decode cX8_howWakes 92 = .ok (.ireturn, 1) := sorry
theorem dX8_howWakes_77 : decode cX8_howWakes 77 = .ok (.aload_n 0, 1) := sorry
theorem dX8_howWakes_78 : decode cX8_howWakes 78 = .ok (.getfield 67, 3) := sorry
theorem dX8_howWakes_81 : decode cX8_howWakes 81 = .ok (.sipush 999, 3) := sorry
theorem dX8_howWakes_84 : decode cX8_howWakes 84 = .ok (.invokestatic 70, 3) := sorry
theorem dX8_howWakes_87 : decode cX8_howWakes 87 = .ok (.goto 5, 3) := sorry
set_option maxHeartbeats 4000000 in
set_option maxRecDepth 100000 in
theorem k_X8_howWakes (l : Launch) (D : va_G) (cy : Nat → ClassId) (ld : Nat → Nat) (t : tk_T) (rg1 : Nat) (a0 : Nat) (a1 : Nat) (p2 : Int32) (ht_a0 : t a0 = (9, 0, 0)) (ht_a1 : t a1 = (10, 0, rg1)) (hp_0 : 0 ≤ p2.toInt) (hp_1 : p2.toInt ≤ 7) : Met l yX8_howWakes (wl yX8_howWakes cX8_howWakes 4 (some .int)) ({ frames := 5, cells := 0, slots := 0, locals := 280 }) (tp D cy ld t [] [.ref a0, .ref a1, .int p2] (fun H => True)) (ti D cy ld t [] (fun r H => 0 ≤ r.toInt) (tk_w t [(20, 0, 0), (12, 0, 0), (9, 0, 0)])) 0 0 (tk_w t [(20, 0, 0), (12, 0, 0), (9, 0, 0)]) := by sorry
theorem dX8_dawnOn_0 : decode cX8_dawnOn 0 = .ok (.iconst 0, 1) := sorry
theorem dX8_dawnOn_1 : decode cX8_dawnOn 1 = .ok (.istore_n 2, 1) := sorry
theorem dX8_dawnOn_2 : decode cX8_dawnOn 2 = .ok (.aload_n 1, 1) := sorry
theorem dX8_dawnOn_3 : decode cX8_dawnOn 3 = .ok (.dup, 1) := sorry
theorem dX8_dawnOn_4 : decode cX8_dawnOn 4 = .ok (.getfield 60, 3) := sorry
theorem dX8_dawnOn_7 : decode cX8_dawnOn 7 = .ok (.iconst 1, 1) := sorry
theorem dX8_dawnOn_8 : decode cX8_dawnOn 8 = .ok (.iadd, 1) := sorry
theorem dX8_dawnOn_9 : decode cX8_dawnOn 9 = .ok (.putfield 60, 3) := sorry
theorem dX8_dawnOn_12 : decode cX8_dawnOn 12 = .ok (.iconst 0, 1) := sorry
theorem dX8_dawnOn_13 : decode cX8_dawnOn 13 = .ok (.istore_n 3, 1) := sorry
theorem dX8_dawnOn_14 : decode cX8_dawnOn 14 = .ok (.iload_n 3, 1) := sorry
theorem dX8_dawnOn_15 : decode cX8_dawnOn 15 = .ok (.aload_n 0, 1) := sorry
theorem dX8_dawnOn_16 : decode cX8_dawnOn 16 = .ok (.getfield 18, 3) := sorry
theorem dX8_dawnOn_19 : decode cX8_dawnOn 19 = .ok (.getfield 125, 3) := sorry
theorem dX8_dawnOn_22 : decode cX8_dawnOn 22 = .ok (.if_icmp .ge 50, 3) := sorry
theorem dX8_dawnOn_72 : decode cX8_dawnOn 72 = .ok (.iload_n 2, 1) := sorry
theorem dX8_dawnOn_73 : decode cX8_dawnOn 73 = .ok (.ireturn, 1) := sorry
theorem dX8_dawnOn_25 : decode cX8_dawnOn 25 = .ok (.iload_n 2, 1) := sorry
theorem dX8_dawnOn_26 : decode cX8_dawnOn 26 = .ok (.aload_n 1, 1) := sorry
theorem dX8_dawnOn_27 : decode cX8_dawnOn 27 = .ok (.getfield 109, 3) := sorry
theorem dX8_dawnOn_30 : decode cX8_dawnOn 30 = .ok (.iload_n 3, 1) := sorry
theorem dX8_dawnOn_31 : decode cX8_dawnOn 31 = .ok (.iaload, 1) := sorry
theorem dX8_dawnOn_32 : decode cX8_dawnOn 32 = .ok (.iadd, 1) := sorry
theorem dX8_dawnOn_33 : decode cX8_dawnOn 33 = .ok (.istore_n 2, 1) := sorry
theorem dX8_dawnOn_34 : decode cX8_dawnOn 34 = .ok (.aload_n 1, 1) := sorry
theorem dX8_dawnOn_35 : decode cX8_dawnOn 35 = .ok (.getfield 55, 3) := sorry
theorem dX8_dawnOn_38 : decode cX8_dawnOn 38 = .ok (.iload_n 3, 1) := sorry
theorem dX8_dawnOn_39 : decode cX8_dawnOn 39 = .ok (.sipush 999, 3) := sorry
theorem dX8_dawnOn_42 : decode cX8_dawnOn 42 = .ok (.aload_n 1, 1) := sorry
theorem dX8_dawnOn_43 : decode cX8_dawnOn 43 = .ok (.getfield 55, 3) := sorry
theorem dX8_dawnOn_46 : decode cX8_dawnOn 46 = .ok (.iload_n 3, 1) := sorry
theorem dX8_dawnOn_47 : decode cX8_dawnOn 47 = .ok (.iaload, 1) := sorry
theorem dX8_dawnOn_48 : decode cX8_dawnOn 48 = .ok (.aload_n 0, 1) := sorry
theorem dX8_dawnOn_49 : decode cX8_dawnOn 49 = .ok (.aload_n 1, 1) := sorry
theorem dX8_dawnOn_50 : decode cX8_dawnOn 50 = .ok (.iload_n 3, 1) := sorry
theorem dX8_dawnOn_51 : decode cX8_dawnOn 51 = .ok (.invokevirtual 128, 3) := sorry
theorem dX8_dawnOn_54 : decode cX8_dawnOn 54 = .ok (.iadd, 1) := sorry
theorem dX8_dawnOn_55 : decode cX8_dawnOn 55 = .ok (.invokestatic 132, 3) := sorry
theorem dX8_dawnOn_58 : decode cX8_dawnOn 58 = .ok (.iastore, 1) := sorry
theorem dX8_dawnOn_59 : decode cX8_dawnOn 59 = .ok (.aload_n 1, 1) := sorry
theorem dX8_dawnOn_60 : decode cX8_dawnOn 60 = .ok (.getfield 109, 3) := sorry
theorem dX8_dawnOn_63 : decode cX8_dawnOn 63 = .ok (.iload_n 3, 1) := sorry
theorem dX8_dawnOn_64 : decode cX8_dawnOn 64 = .ok (.iconst 0, 1) := sorry
theorem dX8_dawnOn_65 : decode cX8_dawnOn 65 = .ok (.iastore, 1) := sorry
theorem dX8_dawnOn_66 : decode cX8_dawnOn 66 = .ok (.iinc 3 1, 3) := sorry
theorem dX8_dawnOn_69 : decode cX8_dawnOn 69 = .ok (.goto (-55), 3) := sorry
set_option maxHeartbeats 4000000 in
set_option maxRecDepth 100000 in
theorem k_X8_dawnOn (l : Launch) (D : va_G) (cy : Nat → ClassId) (ld : Nat → Nat) (t : tk_T) (rg1 : Nat) (a0 : Nat) (a1 : Nat) (ht_a0 : t a0 = (9, 0, 0)) (ht_a1 : t a1 = (10, 0, rg1)) : Met l yX8_dawnOn (wl yX8_dawnOn cX8_dawnOn 4 (some .int)) ({ frames := 6, cells := 0, slots := 0, locals := 350 }) (tp D cy ld t [] [.ref a0, .ref a1] (fun H => True)) (ti D cy ld t [] (fun r H => True) (tk_w t [(10, rg1, rg1), (20, 0, 0), (12, 0, 0), (9, 0, 0), (20, rg1, rg1)])) 0 0 (tk_w t [(10, rg1, rg1), (20, 0, 0), (12, 0, 0), (9, 0, 0), (20, rg1, rg1)]) := by sorry
theorem dX9_copyFrom_0 : decode cX9_copyFrom 0 = .ok (.aload_n 1, 1) := sorry
theorem dX9_copyFrom_1 : decode cX9_copyFrom 1 = .ok (.getfield 9, 3) := sorry
theorem dX9_copyFrom_4 : decode cX9_copyFrom 4 = .ok (.iconst 0, 1) := sorry
theorem dX9_copyFrom_5 : decode cX9_copyFrom 5 = .ok (.aload_n 0, 1) := sorry
theorem dX9_copyFrom_6 : decode cX9_copyFrom 6 = .ok (.getfield 9, 3) := sorry
theorem dX9_copyFrom_9 : decode cX9_copyFrom 9 = .ok (.iconst 0, 1) := sorry
theorem dX9_copyFrom_10 : decode cX9_copyFrom 10 = .ok (.aload_n 0, 1) := sorry
theorem dX9_copyFrom_11 : decode cX9_copyFrom 11 = .ok (.getfield 9, 3) := sorry
theorem dX9_copyFrom_14 : decode cX9_copyFrom 14 = .ok (.arraylength, 1) := sorry
theorem dX9_copyFrom_15 : decode cX9_copyFrom 15 = .ok (.invokestatic 34, 3) := sorry
theorem dX9_copyFrom_18 : decode cX9_copyFrom 18 = .ok (.aload_n 1, 1) := sorry
theorem dX9_copyFrom_19 : decode cX9_copyFrom 19 = .ok (.getfield 15, 3) := sorry
theorem dX9_copyFrom_22 : decode cX9_copyFrom 22 = .ok (.iconst 0, 1) := sorry
theorem dX9_copyFrom_23 : decode cX9_copyFrom 23 = .ok (.aload_n 0, 1) := sorry
theorem dX9_copyFrom_24 : decode cX9_copyFrom 24 = .ok (.getfield 15, 3) := sorry
theorem dX9_copyFrom_27 : decode cX9_copyFrom 27 = .ok (.iconst 0, 1) := sorry
theorem dX9_copyFrom_28 : decode cX9_copyFrom 28 = .ok (.aload_n 0, 1) := sorry
theorem dX9_copyFrom_29 : decode cX9_copyFrom 29 = .ok (.getfield 15, 3) := sorry
theorem dX9_copyFrom_32 : decode cX9_copyFrom 32 = .ok (.arraylength, 1) := sorry
theorem dX9_copyFrom_33 : decode cX9_copyFrom 33 = .ok (.invokestatic 34, 3) := sorry
theorem dX9_copyFrom_36 : decode cX9_copyFrom 36 = .ok (.aload_n 1, 1) := sorry
theorem dX9_copyFrom_37 : decode cX9_copyFrom 37 = .ok (.getfield 18, 3) := sorry
theorem dX9_copyFrom_40 : decode cX9_copyFrom 40 = .ok (.iconst 0, 1) := sorry
theorem dX9_copyFrom_41 : decode cX9_copyFrom 41 = .ok (.aload_n 0, 1) := sorry
theorem dX9_copyFrom_42 : decode cX9_copyFrom 42 = .ok (.getfield 18, 3) := sorry
theorem dX9_copyFrom_45 : decode cX9_copyFrom 45 = .ok (.iconst 0, 1) := sorry
theorem dX9_copyFrom_46 : decode cX9_copyFrom 46 = .ok (.aload_n 0, 1) := sorry
theorem dX9_copyFrom_47 : decode cX9_copyFrom 47 = .ok (.getfield 18, 3) := sorry
theorem dX9_copyFrom_50 : decode cX9_copyFrom 50 = .ok (.arraylength, 1) := sorry
theorem dX9_copyFrom_51 : decode cX9_copyFrom 51 = .ok (.invokestatic 34, 3) := sorry
theorem dX9_copyFrom_54 : decode cX9_copyFrom 54 = .ok (.aload_n 0, 1) := sorry
theorem dX9_copyFrom_55 : decode cX9_copyFrom 55 = .ok (.getfield 21, 3) := sorry
theorem dX9_copyFrom_58 : decode cX9_copyFrom 58 = .ok (.iconst 0, 1) := sorry
theorem dX9_copyFrom_59 : decode cX9_copyFrom 59 = .ok (.aload_n 1, 1) := sorry
theorem dX9_copyFrom_60 : decode cX9_copyFrom 60 = .ok (.getfield 21, 3) := sorry
theorem dX9_copyFrom_63 : decode cX9_copyFrom 63 = .ok (.iconst 0, 1) := sorry
theorem dX9_copyFrom_64 : decode cX9_copyFrom 64 = .ok (.iaload, 1) := sorry
theorem dX9_copyFrom_65 : decode cX9_copyFrom 65 = .ok (.iastore, 1) := sorry
theorem dX9_copyFrom_66 : decode cX9_copyFrom 66 = .ok (.aload_n 0, 1) := sorry
theorem dX9_copyFrom_67 : decode cX9_copyFrom 67 = .ok (.getfield 21, 3) := sorry
theorem dX9_copyFrom_70 : decode cX9_copyFrom 70 = .ok (.iconst 1, 1) := sorry
theorem dX9_copyFrom_71 : decode cX9_copyFrom 71 = .ok (.aload_n 1, 1) := sorry
theorem dX9_copyFrom_72 : decode cX9_copyFrom 72 = .ok (.getfield 21, 3) := sorry
theorem dX9_copyFrom_75 : decode cX9_copyFrom 75 = .ok (.iconst 1, 1) := sorry
theorem dX9_copyFrom_76 : decode cX9_copyFrom 76 = .ok (.iaload, 1) := sorry
theorem dX9_copyFrom_77 : decode cX9_copyFrom 77 = .ok (.iastore, 1) := sorry
theorem dX9_copyFrom_78 : decode cX9_copyFrom 78 = .ok (.aload_n 0, 1) := sorry
theorem dX9_copyFrom_79 : decode cX9_copyFrom 79 = .ok (.aload_n 1, 1) := sorry
theorem dX9_copyFrom_80 : decode cX9_copyFrom 80 = .ok (.getfield 40, 3) := sorry
theorem dX9_copyFrom_83 : decode cX9_copyFrom 83 = .ok (.putfield 40, 3) := sorry
theorem dX9_copyFrom_86 : decode cX9_copyFrom 86 = .ok (.aload_n 0, 1) := sorry
theorem dX9_copyFrom_87 : decode cX9_copyFrom 87 = .ok (.aload_n 1, 1) := sorry
theorem dX9_copyFrom_88 : decode cX9_copyFrom 88 = .ok (.getfield 24, 3) := sorry
theorem dX9_copyFrom_91 : decode cX9_copyFrom 91 = .ok (.putfield 24, 3) := sorry
theorem dX9_copyFrom_94 : decode cX9_copyFrom 94 = .ok (.aload_n 0, 1) := sorry
theorem dX9_copyFrom_95 : decode cX9_copyFrom 95 = .ok (.aload_n 1, 1) := sorry
theorem dX9_copyFrom_96 : decode cX9_copyFrom 96 = .ok (.getfield 28, 3) := sorry
theorem dX9_copyFrom_99 : decode cX9_copyFrom 99 = .ok (.putfield 28, 3) := sorry
theorem dX9_copyFrom_102 : decode cX9_copyFrom 102 = .ok (.aload_n 0, 1) := sorry
theorem dX9_copyFrom_103 : decode cX9_copyFrom 103 = .ok (.aload_n 1, 1) := sorry
theorem dX9_copyFrom_104 : decode cX9_copyFrom 104 = .ok (.getfield 43, 3) := sorry
theorem dX9_copyFrom_107 : decode cX9_copyFrom 107 = .ok (.putfield 43, 3) := sorry
theorem dX9_copyFrom_110 : decode cX9_copyFrom 110 = .ok (.aload_n 0, 1) := sorry
theorem dX9_copyFrom_111 : decode cX9_copyFrom 111 = .ok (.aload_n 1, 1) := sorry
theorem dX9_copyFrom_112 : decode cX9_copyFrom 112 = .ok (.getfield 46, 3) := sorry
theorem dX9_copyFrom_115 : decode cX9_copyFrom 115 = .ok (.putfield 46, 3) := sorry
theorem dX9_copyFrom_118 : decode cX9_copyFrom 118 = .ok (.aload_n 0, 1) := sorry
theorem dX9_copyFrom_119 : decode cX9_copyFrom 119 = .ok (.aload_n 1, 1) := sorry
theorem dX9_copyFrom_120 : decode cX9_copyFrom 120 = .ok (.getfield 49, 3) := sorry
theorem dX9_copyFrom_123 : decode cX9_copyFrom 123 = .ok (.putfield 49, 3) := sorry
theorem dX9_copyFrom_126 : decode cX9_copyFrom 126 = .ok (.aload_n 0, 1) := sorry
theorem dX9_copyFrom_127 : decode cX9_copyFrom 127 = .ok (.aload_n 1, 1) := sorry
theorem dX9_copyFrom_128 : decode cX9_copyFrom 128 = .ok (.getfield 31, 3) := sorry
theorem dX9_copyFrom_131 : decode cX9_copyFrom 131 = .ok (.putfield 31, 3) := sorry
theorem dX9_copyFrom_134 : decode cX9_copyFrom 134 = .ok (.return_, 1) := sorry
set_option maxHeartbeats 4000000 in
set_option maxRecDepth 100000 in
theorem k_X9_copyFrom (l : Launch) (D : va_G) (cy : Nat → ClassId) (ld : Nat → Nat) (t : tk_T) (rg0 : Nat) (rg1 : Nat) (a0 : Nat) (a1 : Nat) (g0 : Int32) (ht_a0 : t a0 = (10, 0, rg0)) (ht_a1 : t a1 = (10, 0, rg1)) (hi_0 : rg0 ≠ rg1) (hp_0 : (-1) ≤ g0.toInt) (hp_1 : g0.toInt ≤ 7) : Met l yX9_copyFrom (wl yX9_copyFrom cX9_copyFrom 2 none) ({ frames := 4, cells := 0, slots := 0, locals := 210 }) (tp D cy ld t [] [.ref a0, .ref a1] (fun H => tk_f D H a1 9 5 (.int g0))) (tv D cy ld t [] (fun H => tk_f D H a0 9 5 (.int g0)) (tk_w t [(20, rg0, rg0), (10, rg0, rg0)])) 0 0 (tk_w t [(20, rg0, rg0), (10, rg0, rg0)]) := by sorry
theorem dX0_run_0 : decode cX0_run 0 = .ok (.aload_n 0, 1) := sorry
theorem dX0_run_1 : decode cX0_run 1 = .ok (.iload_n 1, 1) := sorry
theorem dX0_run_2 : decode cX0_run 2 = .ok (.putfield 33, 3) := sorry
theorem dX0_run_5 : decode cX0_run 5 = .ok (.aload_n 0, 1) := sorry
theorem dX0_run_6 : decode cX0_run 6 = .ok (.aload_n 0, 1) := sorry
theorem dX0_run_7 : decode cX0_run 7 = .ok (.getfield 25, 3) := sorry
theorem dX0_run_10 : decode cX0_run 10 = .ok (.getfield 37, 3) := sorry
theorem dX0_run_13 : decode cX0_run 13 = .ok (.putfield 42, 3) := sorry
theorem dX0_run_16 : decode cX0_run 16 = .ok (.aload_n 0, 1) := sorry
theorem dX0_run_17 : decode cX0_run 17 = .ok (.getfield 12, 3) := sorry
theorem dX0_run_20 : decode cX0_run 20 = .ok (.aload_n 0, 1) := sorry
theorem dX0_run_21 : decode cX0_run 21 = .ok (.getfield 25, 3) := sorry
theorem dX0_run_24 : decode cX0_run 24 = .ok (.getfield 43, 3) := sorry
theorem dX0_run_27 : decode cX0_run 27 = .ok (.invokevirtual 44, 3) := sorry
theorem dX0_run_30 : decode cX0_run 30 = .ok (.aload_n 0, 1) := sorry
theorem dX0_run_31 : decode cX0_run 31 = .ok (.getfield 12, 3) := sorry
theorem dX0_run_34 : decode cX0_run 34 = .ok (.invokevirtual 48, 3) := sorry
theorem dX0_run_37 : decode cX0_run 37 = .ok (.aload_n 0, 1) := sorry
theorem dX0_run_38 : decode cX0_run 38 = .ok (.getfield 18, 3) := sorry
theorem dX0_run_41 : decode cX0_run 41 = .ok (.iconst 0, 1) := sorry
theorem dX0_run_42 : decode cX0_run 42 = .ok (.invokestatic 51, 3) := sorry
theorem dX0_run_45 : decode cX0_run 45 = .ok (.iconst 0, 1) := sorry
theorem dX0_run_46 : decode cX0_run 46 = .ok (.istore_n 3, 1) := sorry
theorem dX0_run_47 : decode cX0_run 47 = .ok (.iconst 0, 1) := sorry
theorem dX0_run_48 : decode cX0_run 48 = .ok (.istore 4, 2) := sorry
theorem dX0_run_50 : decode cX0_run 50 = .ok (.iload 4, 2) := sorry
theorem dX0_run_52 : decode cX0_run 52 = .ok (.iload_n 2, 1) := sorry
theorem dX0_run_97 : decode cX0_run 97 = .ok (.iload_n 3, 1) := sorry
theorem dX0_run_98 : decode cX0_run 98 = .ok (.ireturn, 1) := sorry
theorem dX0_run_53 : decode cX0_run 53 = .ok (.if_icmp .ge 44, 3) := sorry
theorem dX0_run_56 : decode cX0_run 56 = .ok (.iload_n 3, 1) := sorry
theorem dX0_run_57 : decode cX0_run 57 = .ok (.aload_n 0, 1) := sorry
theorem dX0_run_58 : decode cX0_run 58 = .ok (.invokevirtual 57, 3) := sorry
theorem dX0_run_61 : decode cX0_run 61 = .ok (.iadd, 1) := sorry
theorem dX0_run_62 : decode cX0_run 62 = .ok (.istore_n 3, 1) := sorry
theorem dX0_run_63 : decode cX0_run 63 = .ok (.aload_n 0, 1) := sorry
theorem dX0_run_64 : decode cX0_run 64 = .ok (.getfield 12, 3) := sorry
theorem dX0_run_67 : decode cX0_run 67 = .ok (.getfield 61, 3) := sorry
theorem dX0_run_70 : decode cX0_run 70 = .ok (.sipush 999, 3) := sorry
theorem dX0_run_73 : decode cX0_run 73 = .ok (.if_icmp .lt 6, 3) := sorry
theorem dX0_run_79 : decode cX0_run 79 = .ok (.aload_n 0, 1) := sorry
theorem dX0_run_80 : decode cX0_run 80 = .ok (.getfield 29, 3) := sorry
theorem dX0_run_83 : decode cX0_run 83 = .ok (.aload_n 0, 1) := sorry
theorem dX0_run_84 : decode cX0_run 84 = .ok (.getfield 12, 3) := sorry
theorem dX0_run_87 : decode cX0_run 87 = .ok (.invokevirtual 64, 3) := sorry
theorem dX0_run_90 : decode cX0_run 90 = .ok (.pop, 1) := sorry
theorem dX0_run_91 : decode cX0_run 91 = .ok (.iinc 4 1, 3) := sorry
theorem dX0_run_94 : decode cX0_run 94 = .ok (.goto (-44), 3) := sorry
theorem dX0_run_76 : decode cX0_run 76 = .ok (.goto 21, 3) := sorry
set_option maxHeartbeats 4000000 in
set_option maxRecDepth 100000 in
theorem k_X0_run (l : Launch) (D : va_G) (cy : Nat → ClassId) (ld : Nat → Nat) (t : tk_T) (a0 : Nat) (p1 : Int32) (p2 : Int32) (ht_a0 : t a0 = (1, 0, 0)) (hp_0 : 0 ≤ p1.toInt) (hp_1 : p1.toInt ≤ 1000000) (hp_2 : 1 ≤ p2.toInt) (hp_3 : p2.toInt ≤ 60) : Met l yX0_run (wl yX0_run cX0_run 5 (some .int)) ({ frames := 8, cells := 0, slots := 0, locals := 490 }) (tp D cy ld t [] [.ref a0, .int p1, .int p2] (fun H => True)) (ti D cy ld t [] (fun r H => 0 ≤ r.toInt ∧ r.toInt ≤ 60) (tk_w t [(1, 0, 0), (20, 5, 5), (10, 5, 5), (20, 0, 0), (12, 0, 0), (9, 0, 0), (22, 0, 0)])) 0 0 (tk_w t [(1, 0, 0), (20, 5, 5), (10, 5, 5), (20, 0, 0), (12, 0, 0), (9, 0, 0), (22, 0, 0)]) := by sorry
theorem dX1_remember_0 : decode cX1_remember 0 = .ok (.aload_n 0, 1) := sorry
theorem dX1_remember_1 : decode cX1_remember 1 = .ok (.getfield 99, 3) := sorry
theorem dX1_remember_4 : decode cX1_remember 4 = .ok (.bipush 16, 2) := sorry
theorem dX1_remember_32 : decode cX1_remember 32 = .ok (.aload_n 0, 1) := sorry
theorem dX1_remember_33 : decode cX1_remember 33 = .ok (.getfield 102, 3) := sorry
theorem dX1_remember_36 : decode cX1_remember 36 = .ok (.aload_n 0, 1) := sorry
theorem dX1_remember_37 : decode cX1_remember 37 = .ok (.getfield 99, 3) := sorry
theorem dX1_remember_40 : decode cX1_remember 40 = .ok (.iadd, 1) := sorry
theorem dX1_remember_41 : decode cX1_remember 41 = .ok (.bipush 16, 2) := sorry
theorem dX1_remember_43 : decode cX1_remember 43 = .ok (.irem, 1) := sorry
theorem dX1_remember_44 : decode cX1_remember 44 = .ok (.istore_n 2, 1) := sorry
theorem dX1_remember_45 : decode cX1_remember 45 = .ok (.aload_n 0, 1) := sorry
theorem dX1_remember_46 : decode cX1_remember 46 = .ok (.getfield 11, 3) := sorry
theorem dX1_remember_49 : decode cX1_remember 49 = .ok (.iload_n 2, 1) := sorry
theorem dX1_remember_50 : decode cX1_remember 50 = .ok (.aaload, 1) := sorry
theorem dX1_remember_51 : decode cX1_remember 51 = .ok (.aload_n 0, 1) := sorry
theorem dX1_remember_52 : decode cX1_remember 52 = .ok (.getfield 32, 3) := sorry
theorem dX1_remember_55 : decode cX1_remember 55 = .ok (.getfield 50, 3) := sorry
theorem dX1_remember_58 : decode cX1_remember 58 = .ok (.invokevirtual 105, 3) := sorry
theorem dX1_remember_61 : decode cX1_remember 61 = .ok (.aload_n 0, 1) := sorry
theorem dX1_remember_62 : decode cX1_remember 62 = .ok (.getfield 17, 3) := sorry
theorem dX1_remember_65 : decode cX1_remember 65 = .ok (.iload_n 2, 1) := sorry
theorem dX1_remember_66 : decode cX1_remember 66 = .ok (.iload_n 1, 1) := sorry
theorem dX1_remember_67 : decode cX1_remember 67 = .ok (.iastore, 1) := sorry
theorem dX1_remember_68 : decode cX1_remember 68 = .ok (.aload_n 0, 1) := sorry
theorem dX1_remember_69 : decode cX1_remember 69 = .ok (.dup, 1) := sorry
theorem dX1_remember_70 : decode cX1_remember 70 = .ok (.getfield 99, 3) := sorry
theorem dX1_remember_73 : decode cX1_remember 73 = .ok (.iconst 1, 1) := sorry
theorem dX1_remember_74 : decode cX1_remember 74 = .ok (.iadd, 1) := sorry
theorem dX1_remember_75 : decode cX1_remember 75 = .ok (.putfield 99, 3) := sorry
theorem dX1_remember_78 : decode cX1_remember 78 = .ok (.return_, 1) := sorry
theorem dX1_remember_6 : decode cX1_remember 6 = .ok (.if_icmp .ne 26, 3) := sorry
theorem dX1_remember_9 : decode cX1_remember 9 = .ok (.aload_n 0, 1) := sorry
theorem dX1_remember_10 : decode cX1_remember 10 = .ok (.aload_n 0, 1) := sorry
theorem dX1_remember_11 : decode cX1_remember 11 = .ok (.getfield 102, 3) := sorry
theorem dX1_remember_14 : decode cX1_remember 14 = .ok (.iconst 1, 1) := sorry
theorem dX1_remember_15 : decode cX1_remember 15 = .ok (.iadd, 1) := sorry
theorem dX1_remember_16 : decode cX1_remember 16 = .ok (.bipush 16, 2) := sorry
theorem dX1_remember_18 : decode cX1_remember 18 = .ok (.irem, 1) := sorry
theorem dX1_remember_19 : decode cX1_remember 19 = .ok (.putfield 102, 3) := sorry
theorem dX1_remember_22 : decode cX1_remember 22 = .ok (.aload_n 0, 1) := sorry
theorem dX1_remember_23 : decode cX1_remember 23 = .ok (.dup, 1) := sorry
theorem dX1_remember_24 : decode cX1_remember 24 = .ok (.getfield 99, 3) := sorry
theorem dX1_remember_27 : decode cX1_remember 27 = .ok (.iconst 1, 1) := sorry
theorem dX1_remember_28 : decode cX1_remember 28 = .ok (.isub, 1) := sorry
theorem dX1_remember_29 : decode cX1_remember 29 = .ok (.putfield 99, 3) := sorry
set_option maxHeartbeats 4000000 in
set_option maxRecDepth 100000 in
theorem k_X1_remember (l : Launch) (D : va_G) (cy : Nat → ClassId) (ld : Nat → Nat) (t : tk_T) (a0 : Nat) (p1 : Int32) (ht_a0 : t a0 = (2, 0, 0)) : Met l yX1_remember (wl yX1_remember cX1_remember 3 none) ({ frames := 5, cells := 0, slots := 0, locals := 280 }) (tp D cy ld t [] [.ref a0, .int p1] (fun H => True)) (tv D cy ld t [] (fun H => True) (tk_w t [(2, 0, 0), (20, 1, 1), (10, 1, 1), (20, 0, 0)])) 0 0 (tk_w t [(2, 0, 0), (20, 1, 1), (10, 1, 1), (20, 0, 0)]) := by sorry
theorem dX12_within_0 : decode cX12_within 0 = .ok (.iload_n 0, 1) := sorry
theorem dX12_within_1 : decode cX12_within 1 = .ok (.iload_n 1, 1) := sorry
theorem dX12_within_2 : decode cX12_within 2 = .ok (.if_icmp .lt 12, 3) := sorry
theorem dX12_within_14 : decode cX12_within 14 = .ok (.iconst 0, 1) := sorry
theorem dX12_within_15 : decode cX12_within 15 = .ok (.ireturn, 1) := sorry
theorem dX12_within_5 : decode cX12_within 5 = .ok (.iload_n 0, 1) := sorry
theorem dX12_within_6 : decode cX12_within 6 = .ok (.iload_n 2, 1) := sorry
theorem dX12_within_7 : decode cX12_within 7 = .ok (.if_icmp .gt 7, 3) := sorry
theorem dX12_within_10 : decode cX12_within 10 = .ok (.iconst 1, 1) := sorry
theorem dX12_within_11 : decode cX12_within 11 = .ok (.goto 4, 3) := sorry
set_option maxHeartbeats 4000000 in
set_option maxRecDepth 100000 in
theorem k_X12_within (l : Launch) (D : va_G) (cy : Nat → ClassId) (ld : Nat → Nat) (t : tk_T) (X : List Nat) (p0 : Int32) (p1 : Int32) (p2 : Int32) : Met l yX12_within (wl yX12_within cX12_within 3 (some .boolean)) ({ frames := 3, cells := 0, slots := 0, locals := 140 }) (tp D cy ld t X [.int p0, .int p1, .int p2] (fun H => True)) (ti D cy ld t X (fun r H => (1 ≤ r.toInt → 0 ≤ p0.toInt + (-1) * p1.toInt ∧ 0 ≤ (-1) * p0.toInt + p2.toInt) ∧ 0 ≤ r.toInt ∧ r.toInt ≤ 1 ∧ 0 ≤ r.toInt ∧ r.toInt ≤ 1) (tk_w t [])) 0 0 (tk_w t []) := by sorry
theorem dX2_isSinger_0 : decode cX2_isSinger 0 = .ok (.iload_n 1, 1) := sorry
theorem dX2_isSinger_1 : decode cX2_isSinger 1 = .ok (.ifCond .lt 15, 3) := sorry
theorem dX2_isSinger_16 : decode cX2_isSinger 16 = .ok (.iconst 0, 1) := sorry
theorem dX2_isSinger_17 : decode cX2_isSinger 17 = .ok (.ireturn, 1) := sorry
theorem dX2_isSinger_4 : decode cX2_isSinger 4 = .ok (.iload_n 1, 1) := sorry
theorem dX2_isSinger_5 : decode cX2_isSinger 5 = .ok (.aload_n 0, 1) := sorry
theorem dX2_isSinger_6 : decode cX2_isSinger 6 = .ok (.getfield 62, 3) := sorry
theorem dX2_isSinger_9 : decode cX2_isSinger 9 = .ok (.if_icmp .ge 7, 3) := sorry
theorem dX2_isSinger_12 : decode cX2_isSinger 12 = .ok (.iconst 1, 1) := sorry
theorem dX2_isSinger_13 : decode cX2_isSinger 13 = .ok (.goto 4, 3) := sorry
set_option maxHeartbeats 4000000 in
set_option maxRecDepth 100000 in
theorem k_X2_isSinger (l : Launch) (D : va_G) (cy : Nat → ClassId) (ld : Nat → Nat) (t : tk_T) (a0 : Nat) (p1 : Int32) (ht_a0 : t a0 = (3, 0, 0)) : Met l yX2_isSinger (wl yX2_isSinger cX2_isSinger 2 (some .boolean)) ({ frames := 3, cells := 0, slots := 0, locals := 140 }) (tp D cy ld t [] [.ref a0, .int p1] (fun H => True)) (ti D cy ld t [] (fun r H => (1 ≤ r.toInt → 0 ≤ p1.toInt ∧ p1.toInt ≤ 7) ∧ 0 ≤ r.toInt ∧ r.toInt ≤ 1 ∧ 0 ≤ r.toInt ∧ r.toInt ≤ 1) (tk_w t [])) 0 0 (tk_w t []) := by sorry
theorem dX2_areFoes_0 : decode cX2_areFoes 0 = .ok (.aload_n 0, 1) := sorry
theorem dX2_areFoes_1 : decode cX2_areFoes 1 = .ok (.iload_n 1, 1) := sorry
theorem dX2_areFoes_2 : decode cX2_areFoes 2 = .ok (.invokevirtual 90, 3) := sorry
theorem dX2_areFoes_5 : decode cX2_areFoes 5 = .ok (.ifCond .eq 30, 3) := sorry
theorem dX2_areFoes_35 : decode cX2_areFoes 35 = .ok (.iconst 0, 1) := sorry
theorem dX2_areFoes_36 : decode cX2_areFoes 36 = .ok (.ireturn, 1) := sorry
theorem dX2_areFoes_8 : decode cX2_areFoes 8 = .ok (.aload_n 0, 1) := sorry
theorem dX2_areFoes_9 : decode cX2_areFoes 9 = .ok (.iload_n 2, 1) := sorry
theorem dX2_areFoes_10 : decode cX2_areFoes 10 = .ok (.invokevirtual 90, 3) := sorry
theorem dX2_areFoes_13 : decode cX2_areFoes 13 = .ok (.ifCond .eq 22, 3) := sorry
theorem dX2_areFoes_16 : decode cX2_areFoes 16 = .ok (.aload_n 0, 1) := sorry
theorem dX2_areFoes_17 : decode cX2_areFoes 17 = .ok (.getfield 15, 3) := sorry
theorem dX2_areFoes_20 : decode cX2_areFoes 20 = .ok (.iload_n 1, 1) := sorry
theorem dX2_areFoes_21 : decode cX2_areFoes 21 = .ok (.iaload, 1) := sorry
theorem dX2_areFoes_22 : decode cX2_areFoes 22 = .ok (.aload_n 0, 1) := sorry
theorem dX2_areFoes_23 : decode cX2_areFoes 23 = .ok (.getfield 15, 3) := sorry
theorem dX2_areFoes_26 : decode cX2_areFoes 26 = .ok (.iload_n 2, 1) := sorry
theorem dX2_areFoes_27 : decode cX2_areFoes 27 = .ok (.iaload, 1) := sorry
theorem dX2_areFoes_28 : decode cX2_areFoes 28 = .ok (.if_icmp .eq 7, 3) := sorry
theorem dX2_areFoes_31 : decode cX2_areFoes 31 = .ok (.iconst 1, 1) := sorry
theorem dX2_areFoes_32 : decode cX2_areFoes 32 = .ok (.goto 4, 3) := sorry
set_option maxHeartbeats 4000000 in
set_option maxRecDepth 100000 in
theorem k_X2_areFoes (l : Launch) (D : va_G) (cy : Nat → ClassId) (ld : Nat → Nat) (t : tk_T) (a0 : Nat) (p1 : Int32) (p2 : Int32) (ht_a0 : t a0 = (3, 0, 0)) : Met l yX2_areFoes (wl yX2_areFoes cX2_areFoes 3 (some .boolean)) ({ frames := 4, cells := 0, slots := 0, locals := 210 }) (tp D cy ld t [] [.ref a0, .int p1, .int p2] (fun H => True)) (ti D cy ld t [] (fun r H => (1 ≤ r.toInt → 0 ≤ p1.toInt ∧ p1.toInt ≤ 7 ∧ 0 ≤ p2.toInt ∧ p2.toInt ≤ 7) ∧ 0 ≤ r.toInt ∧ r.toInt ≤ 1 ∧ 0 ≤ r.toInt ∧ r.toInt ≤ 1) (tk_w t [])) 0 0 (tk_w t []) := by sorry
theorem dX9_canBegin_0 : decode cX9_canBegin 0 = .ok (.aload_n 0, 1) := sorry
theorem dX9_canBegin_1 : decode cX9_canBegin 1 = .ok (.getfield 15, 3) := sorry
theorem dX9_canBegin_4 : decode cX9_canBegin 4 = .ok (.iload_n 1, 1) := sorry
theorem dX9_canBegin_5 : decode cX9_canBegin 5 = .ok (.iaload, 1) := sorry
theorem dX9_canBegin_6 : decode cX9_canBegin 6 = .ok (.ifCond .ne 16, 3) := sorry
theorem dX9_canBegin_22 : decode cX9_canBegin 22 = .ok (.iconst 0, 1) := sorry
theorem dX9_canBegin_23 : decode cX9_canBegin 23 = .ok (.ireturn, 1) := sorry
theorem dX9_canBegin_9 : decode cX9_canBegin 9 = .ok (.aload_n 0, 1) := sorry
theorem dX9_canBegin_10 : decode cX9_canBegin 10 = .ok (.getfield 9, 3) := sorry
theorem dX9_canBegin_13 : decode cX9_canBegin 13 = .ok (.iload_n 1, 1) := sorry
theorem dX9_canBegin_14 : decode cX9_canBegin 14 = .ok (.iaload, 1) := sorry
theorem dX9_canBegin_15 : decode cX9_canBegin 15 = .ok (.ifCond .le 7, 3) := sorry
theorem dX9_canBegin_18 : decode cX9_canBegin 18 = .ok (.iconst 1, 1) := sorry
theorem dX9_canBegin_19 : decode cX9_canBegin 19 = .ok (.goto 4, 3) := sorry
set_option maxHeartbeats 4000000 in
set_option maxRecDepth 100000 in
theorem k_X9_canBegin (l : Launch) (D : va_G) (cy : Nat → ClassId) (ld : Nat → Nat) (t : tk_T) (rg0 : Nat) (a0 : Nat) (p1 : Int32) (ht_a0 : t a0 = (10, 0, rg0)) (hp_0 : 0 ≤ p1.toInt) (hp_1 : p1.toInt ≤ 7) : Met l yX9_canBegin (wl yX9_canBegin cX9_canBegin 2 (some .boolean)) ({ frames := 3, cells := 0, slots := 0, locals := 140 }) (tp D cy ld t [] [.ref a0, .int p1] (fun H => True)) (ti D cy ld t [] (fun r H => 0 ≤ r.toInt ∧ r.toInt ≤ 1 ∧ 0 ≤ r.toInt ∧ r.toInt ≤ 1) (tk_w t [])) 0 0 (tk_w t []) := by sorry
theorem dX1_openDuel_0 : decode cX1_openDuel 0 = .ok (.iload_n 3, 1) := sorry
theorem dX1_openDuel_1 : decode cX1_openDuel 1 = .ok (.iconst 1, 1) := sorry
theorem dX1_openDuel_2 : decode cX1_openDuel 2 = .ok (.bipush 99, 2) := sorry
theorem dX1_openDuel_4 : decode cX1_openDuel 4 = .ok (.invokestatic 40, 3) := sorry
theorem dX1_openDuel_7 : decode cX1_openDuel 7 = .ok (.ifCond .ne 5, 3) := sorry
theorem dX1_openDuel_12 : decode cX1_openDuel 12 = .ok (.aload_n 0, 1) := sorry
theorem dX1_openDuel_13 : decode cX1_openDuel 13 = .ok (.getfield 32, 3) := sorry
theorem dX1_openDuel_16 : decode cX1_openDuel 16 = .ok (.iload_n 1, 1) := sorry
theorem dX1_openDuel_17 : decode cX1_openDuel 17 = .ok (.invokevirtual 44, 3) := sorry
theorem dX1_openDuel_20 : decode cX1_openDuel 20 = .ok (.ifCond .eq 14, 3) := sorry
theorem dX1_openDuel_34 : decode cX1_openDuel 34 = .ok (.bipush (-2), 2) := sorry
theorem dX1_openDuel_36 : decode cX1_openDuel 36 = .ok (.ireturn, 1) := sorry
theorem dX1_openDuel_23 : decode cX1_openDuel 23 = .ok (.aload_n 0, 1) := sorry
theorem dX1_openDuel_24 : decode cX1_openDuel 24 = .ok (.getfield 32, 3) := sorry
theorem dX1_openDuel_27 : decode cX1_openDuel 27 = .ok (.iload_n 2, 1) := sorry
theorem dX1_openDuel_28 : decode cX1_openDuel 28 = .ok (.invokevirtual 44, 3) := sorry
theorem dX1_openDuel_31 : decode cX1_openDuel 31 = .ok (.ifCond .ne 6, 3) := sorry
theorem dX1_openDuel_37 : decode cX1_openDuel 37 = .ok (.aload_n 0, 1) := sorry
theorem dX1_openDuel_38 : decode cX1_openDuel 38 = .ok (.getfield 32, 3) := sorry
theorem dX1_openDuel_41 : decode cX1_openDuel 41 = .ok (.getfield 50, 3) := sorry
theorem dX1_openDuel_44 : decode cX1_openDuel 44 = .ok (.astore 4, 2) := sorry
theorem dX1_openDuel_46 : decode cX1_openDuel 46 = .ok (.aload 4, 2) := sorry
theorem dX1_openDuel_48 : decode cX1_openDuel 48 = .ok (.invokevirtual 53, 3) := sorry
theorem dX1_openDuel_51 : decode cX1_openDuel 51 = .ok (.ifCond .ne 33, 3) := sorry
theorem dX1_openDuel_84 : decode cX1_openDuel 84 = .ok (.bipush (-3), 2) := sorry
theorem dX1_openDuel_86 : decode cX1_openDuel 86 = .ok (.ireturn, 1) := sorry
theorem dX1_openDuel_54 : decode cX1_openDuel 54 = .ok (.aload_n 0, 1) := sorry
theorem dX1_openDuel_55 : decode cX1_openDuel 55 = .ok (.getfield 32, 3) := sorry
theorem dX1_openDuel_58 : decode cX1_openDuel 58 = .ok (.iload_n 1, 1) := sorry
theorem dX1_openDuel_59 : decode cX1_openDuel 59 = .ok (.iload_n 2, 1) := sorry
theorem dX1_openDuel_60 : decode cX1_openDuel 60 = .ok (.invokevirtual 57, 3) := sorry
theorem dX1_openDuel_63 : decode cX1_openDuel 63 = .ok (.ifCond .eq 21, 3) := sorry
theorem dX1_openDuel_66 : decode cX1_openDuel 66 = .ok (.aload 4, 2) := sorry
theorem dX1_openDuel_68 : decode cX1_openDuel 68 = .ok (.iload_n 1, 1) := sorry
theorem dX1_openDuel_69 : decode cX1_openDuel 69 = .ok (.invokevirtual 61, 3) := sorry
theorem dX1_openDuel_72 : decode cX1_openDuel 72 = .ok (.ifCond .eq 12, 3) := sorry
theorem dX1_openDuel_75 : decode cX1_openDuel 75 = .ok (.aload 4, 2) := sorry
theorem dX1_openDuel_77 : decode cX1_openDuel 77 = .ok (.iload_n 2, 1) := sorry
theorem dX1_openDuel_78 : decode cX1_openDuel 78 = .ok (.invokevirtual 61, 3) := sorry
theorem dX1_openDuel_81 : decode cX1_openDuel 81 = .ok (.ifCond .ne 6, 3) := sorry
theorem dX1_openDuel_87 : decode cX1_openDuel 87 = .ok (.aload_n 0, 1) := sorry
theorem dX1_openDuel_88 : decode cX1_openDuel 88 = .ok (.iconst 0, 1) := sorry
theorem dX1_openDuel_89 : decode cX1_openDuel 89 = .ok (.invokevirtual 64, 3) := sorry
theorem dX1_openDuel_92 : decode cX1_openDuel 92 = .ok (.aload 4, 2) := sorry
theorem dX1_openDuel_94 : decode cX1_openDuel 94 = .ok (.iload_n 1, 1) := sorry
theorem dX1_openDuel_95 : decode cX1_openDuel 95 = .ok (.iload_n 2, 1) := sorry
theorem dX1_openDuel_96 : decode cX1_openDuel 96 = .ok (.iload_n 3, 1) := sorry
theorem dX1_openDuel_97 : decode cX1_openDuel 97 = .ok (.invokevirtual 68, 3) := sorry
theorem dX1_openDuel_100 : decode cX1_openDuel 100 = .ok (.iconst 0, 1) := sorry
theorem dX1_openDuel_101 : decode cX1_openDuel 101 = .ok (.ireturn, 1) := sorry
theorem dX1_openDuel_10 : decode cX1_openDuel 10 = .ok (.iconst (-1), 1) := sorry
theorem dX1_openDuel_11 : decode cX1_openDuel 11 = .ok (.ireturn, 1) := sorry
set_option maxHeartbeats 4000000 in
set_option maxRecDepth 100000 in
theorem k_X1_openDuel (l : Launch) (D : va_G) (cy : Nat → ClassId) (ld : Nat → Nat) (t : tk_T) (a0 : Nat) (p1 : Int32) (p2 : Int32) (p3 : Int32) (ht_a0 : t a0 = (2, 0, 0)) : Met l yX1_openDuel (wl yX1_openDuel cX1_openDuel 5 (some .int)) ({ frames := 6, cells := 0, slots := 0, locals := 350 }) (tp D cy ld t [] [.ref a0, .int p1, .int p2, .int p3] (fun H => True)) (ti D cy ld t [] (fun r H => (-3) ≤ r.toInt ∧ r.toInt ≤ 0) (tk_w t [(2, 0, 0), (20, 1, 1), (10, 1, 1), (20, 0, 0), (10, 0, 0)])) 0 0 (tk_w t [(2, 0, 0), (20, 1, 1), (10, 1, 1), (20, 0, 0), (10, 0, 0)]) := by sorry
theorem dX2_isVerse_0 : decode cX2_isVerse 0 = .ok (.iload_n 1, 1) := sorry
theorem dX2_isVerse_1 : decode cX2_isVerse 1 = .ok (.ifCond .lt 15, 3) := sorry
theorem dX2_isVerse_16 : decode cX2_isVerse 16 = .ok (.iconst 0, 1) := sorry
theorem dX2_isVerse_17 : decode cX2_isVerse 17 = .ok (.ireturn, 1) := sorry
theorem dX2_isVerse_4 : decode cX2_isVerse 4 = .ok (.iload_n 1, 1) := sorry
theorem dX2_isVerse_5 : decode cX2_isVerse 5 = .ok (.aload_n 0, 1) := sorry
theorem dX2_isVerse_6 : decode cX2_isVerse 6 = .ok (.getfield 71, 3) := sorry
theorem dX2_isVerse_9 : decode cX2_isVerse 9 = .ok (.if_icmp .ge 7, 3) := sorry
theorem dX2_isVerse_12 : decode cX2_isVerse 12 = .ok (.iconst 1, 1) := sorry
theorem dX2_isVerse_13 : decode cX2_isVerse 13 = .ok (.goto 4, 3) := sorry
set_option maxHeartbeats 4000000 in
set_option maxRecDepth 100000 in
theorem k_X2_isVerse (l : Launch) (D : va_G) (cy : Nat → ClassId) (ld : Nat → Nat) (t : tk_T) (a0 : Nat) (p1 : Int32) (ht_a0 : t a0 = (3, 0, 0)) : Met l yX2_isVerse (wl yX2_isVerse cX2_isVerse 2 (some .boolean)) ({ frames := 3, cells := 0, slots := 0, locals := 140 }) (tp D cy ld t [] [.ref a0, .int p1] (fun H => True)) (ti D cy ld t [] (fun r H => (1 ≤ r.toInt → 0 ≤ p1.toInt ∧ p1.toInt ≤ 9) ∧ 0 ≤ r.toInt ∧ r.toInt ≤ 1 ∧ 0 ≤ r.toInt ∧ r.toInt ≤ 1) (tk_w t [])) 0 0 (tk_w t []) := by sorry
theorem dX1_singVerse_0 : decode cX1_singVerse 0 = .ok (.aload_n 0, 1) := sorry
theorem dX1_singVerse_1 : decode cX1_singVerse 1 = .ok (.getfield 32, 3) := sorry
theorem dX1_singVerse_4 : decode cX1_singVerse 4 = .ok (.iload_n 1, 1) := sorry
theorem dX1_singVerse_5 : decode cX1_singVerse 5 = .ok (.invokevirtual 72, 3) := sorry
theorem dX1_singVerse_8 : decode cX1_singVerse 8 = .ok (.ifCond .ne 6, 3) := sorry
theorem dX1_singVerse_14 : decode cX1_singVerse 14 = .ok (.aload_n 0, 1) := sorry
theorem dX1_singVerse_15 : decode cX1_singVerse 15 = .ok (.getfield 32, 3) := sorry
theorem dX1_singVerse_18 : decode cX1_singVerse 18 = .ok (.getfield 50, 3) := sorry
theorem dX1_singVerse_21 : decode cX1_singVerse 21 = .ok (.invokevirtual 53, 3) := sorry
theorem dX1_singVerse_24 : decode cX1_singVerse 24 = .ok (.ifCond .eq 21, 3) := sorry
theorem dX1_singVerse_45 : decode cX1_singVerse 45 = .ok (.bipush (-3), 2) := sorry
theorem dX1_singVerse_47 : decode cX1_singVerse 47 = .ok (.ireturn, 1) := sorry
theorem dX1_singVerse_27 : decode cX1_singVerse 27 = .ok (.aload_n 0, 1) := sorry
theorem dX1_singVerse_28 : decode cX1_singVerse 28 = .ok (.getfield 36, 3) := sorry
theorem dX1_singVerse_31 : decode cX1_singVerse 31 = .ok (.aload_n 0, 1) := sorry
theorem dX1_singVerse_32 : decode cX1_singVerse 32 = .ok (.getfield 32, 3) := sorry
theorem dX1_singVerse_35 : decode cX1_singVerse 35 = .ok (.getfield 50, 3) := sorry
theorem dX1_singVerse_38 : decode cX1_singVerse 38 = .ok (.iload_n 1, 1) := sorry
theorem dX1_singVerse_39 : decode cX1_singVerse 39 = .ok (.invokevirtual 75, 3) := sorry
theorem dX1_singVerse_42 : decode cX1_singVerse 42 = .ok (.ifCond .eq 6, 3) := sorry
theorem dX1_singVerse_48 : decode cX1_singVerse 48 = .ok (.aload_n 0, 1) := sorry
theorem dX1_singVerse_49 : decode cX1_singVerse 49 = .ok (.iconst 1, 1) := sorry
theorem dX1_singVerse_50 : decode cX1_singVerse 50 = .ok (.invokevirtual 64, 3) := sorry
theorem dX1_singVerse_53 : decode cX1_singVerse 53 = .ok (.aload_n 0, 1) := sorry
theorem dX1_singVerse_54 : decode cX1_singVerse 54 = .ok (.getfield 36, 3) := sorry
theorem dX1_singVerse_57 : decode cX1_singVerse 57 = .ok (.aload_n 0, 1) := sorry
theorem dX1_singVerse_58 : decode cX1_singVerse 58 = .ok (.getfield 32, 3) := sorry
theorem dX1_singVerse_61 : decode cX1_singVerse 61 = .ok (.getfield 50, 3) := sorry
theorem dX1_singVerse_64 : decode cX1_singVerse 64 = .ok (.iload_n 1, 1) := sorry
theorem dX1_singVerse_65 : decode cX1_singVerse 65 = .ok (.invokevirtual 81, 3) := sorry
theorem dX1_singVerse_68 : decode cX1_singVerse 68 = .ok (.ireturn, 1) := sorry
theorem dX1_singVerse_11 : decode cX1_singVerse 11 = .ok (.bipush (-2), 2) := sorry
theorem dX1_singVerse_13 : decode cX1_singVerse 13 = .ok (.ireturn, 1) := sorry
set_option maxHeartbeats 4000000 in
set_option maxRecDepth 100000 in
theorem k_X1_singVerse (l : Launch) (D : va_G) (cy : Nat → ClassId) (ld : Nat → Nat) (t : tk_T) (a0 : Nat) (p1 : Int32) (ht_a0 : t a0 = (2, 0, 0)) : Met l yX1_singVerse (wl yX1_singVerse cX1_singVerse 2 (some .int)) ({ frames := 7, cells := 0, slots := 0, locals := 420 }) (tp D cy ld t [] [.ref a0, .int p1] (fun H => True)) (ti D cy ld t [] (fun r H => True) (tk_w t [(20, 0, 0), (12, 0, 0), (9, 0, 0), (2, 0, 0), (20, 1, 1), (10, 1, 1), (10, 0, 0)])) 0 0 (tk_w t [(20, 0, 0), (12, 0, 0), (9, 0, 0), (2, 0, 0), (20, 1, 1), (10, 1, 1), (10, 0, 0)]) := by sorry
theorem dX1_leaveDuel_0 : decode cX1_leaveDuel 0 = .ok (.aload_n 0, 1) := sorry
theorem dX1_leaveDuel_1 : decode cX1_leaveDuel 1 = .ok (.getfield 32, 3) := sorry
theorem dX1_leaveDuel_4 : decode cX1_leaveDuel 4 = .ok (.getfield 50, 3) := sorry
theorem dX1_leaveDuel_7 : decode cX1_leaveDuel 7 = .ok (.invokevirtual 53, 3) := sorry
theorem dX1_leaveDuel_10 : decode cX1_leaveDuel 10 = .ok (.ifCond .ne 6, 3) := sorry
theorem dX1_leaveDuel_16 : decode cX1_leaveDuel 16 = .ok (.aload_n 0, 1) := sorry
theorem dX1_leaveDuel_17 : decode cX1_leaveDuel 17 = .ok (.iconst 2, 1) := sorry
theorem dX1_leaveDuel_18 : decode cX1_leaveDuel 18 = .ok (.invokevirtual 64, 3) := sorry
theorem dX1_leaveDuel_21 : decode cX1_leaveDuel 21 = .ok (.aload_n 0, 1) := sorry
theorem dX1_leaveDuel_22 : decode cX1_leaveDuel 22 = .ok (.getfield 32, 3) := sorry
theorem dX1_leaveDuel_25 : decode cX1_leaveDuel 25 = .ok (.getfield 50, 3) := sorry
theorem dX1_leaveDuel_28 : decode cX1_leaveDuel 28 = .ok (.invokevirtual 85, 3) := sorry
theorem dX1_leaveDuel_31 : decode cX1_leaveDuel 31 = .ok (.aload_n 0, 1) := sorry
theorem dX1_leaveDuel_32 : decode cX1_leaveDuel 32 = .ok (.getfield 32, 3) := sorry
theorem dX1_leaveDuel_35 : decode cX1_leaveDuel 35 = .ok (.getfield 50, 3) := sorry
theorem dX1_leaveDuel_38 : decode cX1_leaveDuel 38 = .ok (.getfield 88, 3) := sorry
theorem dX1_leaveDuel_41 : decode cX1_leaveDuel 41 = .ok (.ireturn, 1) := sorry
theorem dX1_leaveDuel_13 : decode cX1_leaveDuel 13 = .ok (.bipush (-3), 2) := sorry
theorem dX1_leaveDuel_15 : decode cX1_leaveDuel 15 = .ok (.ireturn, 1) := sorry
set_option maxHeartbeats 4000000 in
set_option maxRecDepth 100000 in
theorem k_X1_leaveDuel (l : Launch) (D : va_G) (cy : Nat → ClassId) (ld : Nat → Nat) (t : tk_T) (a0 : Nat) (ht_a0 : t a0 = (2, 0, 0)) : Met l yX1_leaveDuel (wl yX1_leaveDuel cX1_leaveDuel 1 (some .int)) ({ frames := 6, cells := 0, slots := 0, locals := 350 }) (tp D cy ld t [] [.ref a0] (fun H => True)) (ti D cy ld t [] (fun r H => True) (tk_w t [(2, 0, 0), (20, 1, 1), (10, 1, 1), (20, 0, 0), (10, 0, 0)])) 0 0 (tk_w t [(2, 0, 0), (20, 1, 1), (10, 1, 1), (20, 0, 0), (10, 0, 0)]) := by sorry
theorem dX1_nextDay_0 : decode cX1_nextDay 0 = .ok (.aload_n 0, 1) := sorry
theorem dX1_nextDay_1 : decode cX1_nextDay 1 = .ok (.getfield 32, 3) := sorry
theorem dX1_nextDay_4 : decode cX1_nextDay 4 = .ok (.getfield 50, 3) := sorry
theorem dX1_nextDay_7 : decode cX1_nextDay 7 = .ok (.invokevirtual 53, 3) := sorry
theorem dX1_nextDay_10 : decode cX1_nextDay 10 = .ok (.ifCond .ne 19, 3) := sorry
theorem dX1_nextDay_29 : decode cX1_nextDay 29 = .ok (.bipush (-3), 2) := sorry
theorem dX1_nextDay_31 : decode cX1_nextDay 31 = .ok (.ireturn, 1) := sorry
theorem dX1_nextDay_13 : decode cX1_nextDay 13 = .ok (.aload_n 0, 1) := sorry
theorem dX1_nextDay_14 : decode cX1_nextDay 14 = .ok (.getfield 32, 3) := sorry
theorem dX1_nextDay_17 : decode cX1_nextDay 17 = .ok (.getfield 50, 3) := sorry
theorem dX1_nextDay_20 : decode cX1_nextDay 20 = .ok (.getfield 92, 3) := sorry
theorem dX1_nextDay_23 : decode cX1_nextDay 23 = .ok (.sipush 999, 3) := sorry
theorem dX1_nextDay_26 : decode cX1_nextDay 26 = .ok (.if_icmp .lt 6, 3) := sorry
theorem dX1_nextDay_32 : decode cX1_nextDay 32 = .ok (.aload_n 0, 1) := sorry
theorem dX1_nextDay_33 : decode cX1_nextDay 33 = .ok (.iconst 3, 1) := sorry
theorem dX1_nextDay_34 : decode cX1_nextDay 34 = .ok (.invokevirtual 64, 3) := sorry
theorem dX1_nextDay_37 : decode cX1_nextDay 37 = .ok (.aload_n 0, 1) := sorry
theorem dX1_nextDay_38 : decode cX1_nextDay 38 = .ok (.getfield 36, 3) := sorry
theorem dX1_nextDay_41 : decode cX1_nextDay 41 = .ok (.aload_n 0, 1) := sorry
theorem dX1_nextDay_42 : decode cX1_nextDay 42 = .ok (.getfield 32, 3) := sorry
theorem dX1_nextDay_45 : decode cX1_nextDay 45 = .ok (.getfield 50, 3) := sorry
theorem dX1_nextDay_48 : decode cX1_nextDay 48 = .ok (.invokevirtual 95, 3) := sorry
theorem dX1_nextDay_51 : decode cX1_nextDay 51 = .ok (.ireturn, 1) := sorry
set_option maxHeartbeats 4000000 in
set_option maxRecDepth 100000 in
theorem k_X1_nextDay (l : Launch) (D : va_G) (cy : Nat → ClassId) (ld : Nat → Nat) (t : tk_T) (a0 : Nat) (ht_a0 : t a0 = (2, 0, 0)) : Met l yX1_nextDay (wl yX1_nextDay cX1_nextDay 1 (some .int)) ({ frames := 7, cells := 0, slots := 0, locals := 420 }) (tp D cy ld t [] [.ref a0] (fun H => True)) (ti D cy ld t [] (fun r H => True) (tk_w t [(2, 0, 0), (20, 1, 1), (10, 1, 1), (20, 0, 0), (10, 0, 0), (12, 0, 0), (9, 0, 0)])) 0 0 (tk_w t [(2, 0, 0), (20, 1, 1), (10, 1, 1), (20, 0, 0), (10, 0, 0), (12, 0, 0), (9, 0, 0)]) := by sorry
end

section
theorem dX1_takeBack_0 : decode cX1_takeBack 0 = .ok (.aload_n 0, 1) := sorry
theorem dX1_takeBack_1 : decode cX1_takeBack 1 = .ok (.getfield 99, 3) := sorry
theorem dX1_takeBack_4 : decode cX1_takeBack 4 = .ok (.ifCond .ne 6, 3) := sorry
theorem dX1_takeBack_10 : decode cX1_takeBack 10 = .ok (.aload_n 0, 1) := sorry
theorem dX1_takeBack_11 : decode cX1_takeBack 11 = .ok (.dup, 1) := sorry
theorem dX1_takeBack_12 : decode cX1_takeBack 12 = .ok (.getfield 99, 3) := sorry
theorem dX1_takeBack_15 : decode cX1_takeBack 15 = .ok (.iconst 1, 1) := sorry
theorem dX1_takeBack_16 : decode cX1_takeBack 16 = .ok (.isub, 1) := sorry
theorem dX1_takeBack_17 : decode cX1_takeBack 17 = .ok (.putfield 99, 3) := sorry
theorem dX1_takeBack_20 : decode cX1_takeBack 20 = .ok (.aload_n 0, 1) := sorry
theorem dX1_takeBack_21 : decode cX1_takeBack 21 = .ok (.getfield 102, 3) := sorry
theorem dX1_takeBack_24 : decode cX1_takeBack 24 = .ok (.aload_n 0, 1) := sorry
theorem dX1_takeBack_25 : decode cX1_takeBack 25 = .ok (.getfield 99, 3) := sorry
theorem dX1_takeBack_28 : decode cX1_takeBack 28 = .ok (.iadd, 1) := sorry
theorem dX1_takeBack_29 : decode cX1_takeBack 29 = .ok (.bipush 16, 2) := sorry
theorem dX1_takeBack_31 : decode cX1_takeBack 31 = .ok (.irem, 1) := sorry
theorem dX1_takeBack_32 : decode cX1_takeBack 32 = .ok (.istore_n 1, 1) := sorry
theorem dX1_takeBack_33 : decode cX1_takeBack 33 = .ok (.aload_n 0, 1) := sorry
theorem dX1_takeBack_34 : decode cX1_takeBack 34 = .ok (.getfield 32, 3) := sorry
theorem dX1_takeBack_37 : decode cX1_takeBack 37 = .ok (.getfield 50, 3) := sorry
theorem dX1_takeBack_40 : decode cX1_takeBack 40 = .ok (.aload_n 0, 1) := sorry
theorem dX1_takeBack_41 : decode cX1_takeBack 41 = .ok (.getfield 11, 3) := sorry
theorem dX1_takeBack_44 : decode cX1_takeBack 44 = .ok (.iload_n 1, 1) := sorry
theorem dX1_takeBack_45 : decode cX1_takeBack 45 = .ok (.aaload, 1) := sorry
theorem dX1_takeBack_46 : decode cX1_takeBack 46 = .ok (.invokevirtual 105, 3) := sorry
theorem dX1_takeBack_49 : decode cX1_takeBack 49 = .ok (.aload_n 0, 1) := sorry
theorem dX1_takeBack_50 : decode cX1_takeBack 50 = .ok (.getfield 17, 3) := sorry
theorem dX1_takeBack_53 : decode cX1_takeBack 53 = .ok (.iload_n 1, 1) := sorry
theorem dX1_takeBack_54 : decode cX1_takeBack 54 = .ok (.iaload, 1) := sorry
theorem dX1_takeBack_55 : decode cX1_takeBack 55 = .ok (.ireturn, 1) := sorry
theorem dX1_takeBack_7 : decode cX1_takeBack 7 = .ok (.bipush (-3), 2) := sorry
theorem dX1_takeBack_9 : decode cX1_takeBack 9 = .ok (.ireturn, 1) := sorry
set_option maxHeartbeats 4000000 in
set_option maxRecDepth 100000 in
theorem k_X1_takeBack (l : Launch) (D : va_G) (cy : Nat → ClassId) (ld : Nat → Nat) (t : tk_T) (a0 : Nat) (ht_a0 : t a0 = (2, 0, 0)) : Met l yX1_takeBack (wl yX1_takeBack cX1_takeBack 2 (some .int)) ({ frames := 5, cells := 0, slots := 0, locals := 280 }) (tp D cy ld t [] [.ref a0] (fun H => True)) (ti D cy ld t [] (fun r H => True) (tk_w t [(2, 0, 0), (20, 0, 0), (10, 0, 0)])) 0 0 (tk_w t [(2, 0, 0), (20, 0, 0), (10, 0, 0)]) := by sorry
theorem dX1_clearUndone_0 : decode cX1_clearUndone 0 = .ok (.aload_n 0, 1) := sorry
theorem dX1_clearUndone_1 : decode cX1_clearUndone 1 = .ok (.iconst 0, 1) := sorry
theorem dX1_clearUndone_2 : decode cX1_clearUndone 2 = .ok (.putfield 99, 3) := sorry
theorem dX1_clearUndone_5 : decode cX1_clearUndone 5 = .ok (.return_, 1) := sorry
set_option maxHeartbeats 4000000 in
set_option maxRecDepth 100000 in
theorem k_X1_clearUndone (l : Launch) (D : va_G) (cy : Nat → ClassId) (ld : Nat → Nat) (t : tk_T) (a0 : Nat) (ht_a0 : t a0 = (2, 0, 0)) : Met l yX1_clearUndone (wl yX1_clearUndone cX1_clearUndone 1 none) ({ frames := 3, cells := 0, slots := 0, locals := 140 }) (tp D cy ld t [] [.ref a0] (fun H => True)) (tv D cy ld t [] (fun H => True) (tk_w t [(2, 0, 0)])) 0 0 (tk_w t [(2, 0, 0)]) := by sorry
theorem dX1_save_0 : decode cX1_save 0 = .ok (.aload_n 0, 1) := sorry
theorem dX1_save_1 : decode cX1_save 1 = .ok (.getfield 22, 3) := sorry
theorem dX1_save_4 : decode cX1_save 4 = .ok (.aload_n 0, 1) := sorry
theorem dX1_save_5 : decode cX1_save 5 = .ok (.getfield 32, 3) := sorry
theorem dX1_save_8 : decode cX1_save 8 = .ok (.getfield 50, 3) := sorry
theorem dX1_save_11 : decode cX1_save 11 = .ok (.invokevirtual 105, 3) := sorry
theorem dX1_save_14 : decode cX1_save 14 = .ok (.aload_n 0, 1) := sorry
theorem dX1_save_15 : decode cX1_save 15 = .ok (.aload_n 0, 1) := sorry
theorem dX1_save_16 : decode cX1_save 16 = .ok (.getfield 102, 3) := sorry
theorem dX1_save_19 : decode cX1_save 19 = .ok (.putfield 109, 3) := sorry
theorem dX1_save_22 : decode cX1_save 22 = .ok (.aload_n 0, 1) := sorry
theorem dX1_save_23 : decode cX1_save 23 = .ok (.aload_n 0, 1) := sorry
theorem dX1_save_24 : decode cX1_save 24 = .ok (.getfield 99, 3) := sorry
theorem dX1_save_27 : decode cX1_save 27 = .ok (.putfield 112, 3) := sorry
theorem dX1_save_30 : decode cX1_save 30 = .ok (.iconst 0, 1) := sorry
theorem dX1_save_31 : decode cX1_save 31 = .ok (.istore_n 1, 1) := sorry
theorem dX1_save_32 : decode cX1_save 32 = .ok (.iload_n 1, 1) := sorry
theorem dX1_save_33 : decode cX1_save 33 = .ok (.bipush 16, 2) := sorry
theorem dX1_save_35 : decode cX1_save 35 = .ok (.if_icmp .ge 36, 3) := sorry
theorem dX1_save_71 : decode cX1_save 71 = .ok (.return_, 1) := sorry
theorem dX1_save_38 : decode cX1_save 38 = .ok (.aload_n 0, 1) := sorry
theorem dX1_save_39 : decode cX1_save 39 = .ok (.getfield 26, 3) := sorry
theorem dX1_save_42 : decode cX1_save 42 = .ok (.iload_n 1, 1) := sorry
theorem dX1_save_43 : decode cX1_save 43 = .ok (.aaload, 1) := sorry
theorem dX1_save_44 : decode cX1_save 44 = .ok (.aload_n 0, 1) := sorry
theorem dX1_save_45 : decode cX1_save 45 = .ok (.getfield 11, 3) := sorry
theorem dX1_save_48 : decode cX1_save 48 = .ok (.iload_n 1, 1) := sorry
theorem dX1_save_49 : decode cX1_save 49 = .ok (.aaload, 1) := sorry
theorem dX1_save_50 : decode cX1_save 50 = .ok (.invokevirtual 105, 3) := sorry
theorem dX1_save_53 : decode cX1_save 53 = .ok (.aload_n 0, 1) := sorry
theorem dX1_save_54 : decode cX1_save 54 = .ok (.getfield 29, 3) := sorry
theorem dX1_save_57 : decode cX1_save 57 = .ok (.iload_n 1, 1) := sorry
theorem dX1_save_58 : decode cX1_save 58 = .ok (.aload_n 0, 1) := sorry
theorem dX1_save_59 : decode cX1_save 59 = .ok (.getfield 17, 3) := sorry
theorem dX1_save_62 : decode cX1_save 62 = .ok (.iload_n 1, 1) := sorry
theorem dX1_save_63 : decode cX1_save 63 = .ok (.iaload, 1) := sorry
theorem dX1_save_64 : decode cX1_save 64 = .ok (.iastore, 1) := sorry
theorem dX1_save_65 : decode cX1_save 65 = .ok (.iinc 1 1, 3) := sorry
theorem dX1_save_68 : decode cX1_save 68 = .ok (.goto (-36), 3) := sorry
set_option maxHeartbeats 4000000 in
set_option maxRecDepth 100000 in
theorem k_X1_save (l : Launch) (D : va_G) (cy : Nat → ClassId) (ld : Nat → Nat) (t : tk_T) (a0 : Nat) (ht_a0 : t a0 = (2, 0, 0)) : Met l yX1_save (wl yX1_save cX1_save 2 none) ({ frames := 5, cells := 0, slots := 0, locals := 280 }) (tp D cy ld t [] [.ref a0] (fun H => True)) (tv D cy ld t [] (fun H => True) (tk_w t [(20, 2, 2), (10, 2, 2), (2, 0, 0), (20, 3, 3), (10, 3, 3), (20, 0, 0)])) 0 0 (tk_w t [(20, 2, 2), (10, 2, 2), (2, 0, 0), (20, 3, 3), (10, 3, 3), (20, 0, 0)]) := by sorry
theorem dX1_restore_0 : decode cX1_restore 0 = .ok (.aload_n 0, 1) := sorry
theorem dX1_restore_1 : decode cX1_restore 1 = .ok (.getfield 32, 3) := sorry
theorem dX1_restore_4 : decode cX1_restore 4 = .ok (.getfield 50, 3) := sorry
theorem dX1_restore_7 : decode cX1_restore 7 = .ok (.aload_n 0, 1) := sorry
theorem dX1_restore_8 : decode cX1_restore 8 = .ok (.getfield 22, 3) := sorry
theorem dX1_restore_11 : decode cX1_restore 11 = .ok (.invokevirtual 105, 3) := sorry
theorem dX1_restore_14 : decode cX1_restore 14 = .ok (.aload_n 0, 1) := sorry
theorem dX1_restore_15 : decode cX1_restore 15 = .ok (.aload_n 0, 1) := sorry
theorem dX1_restore_16 : decode cX1_restore 16 = .ok (.getfield 109, 3) := sorry
theorem dX1_restore_19 : decode cX1_restore 19 = .ok (.putfield 102, 3) := sorry
theorem dX1_restore_22 : decode cX1_restore 22 = .ok (.aload_n 0, 1) := sorry
theorem dX1_restore_23 : decode cX1_restore 23 = .ok (.aload_n 0, 1) := sorry
theorem dX1_restore_24 : decode cX1_restore 24 = .ok (.getfield 112, 3) := sorry
theorem dX1_restore_27 : decode cX1_restore 27 = .ok (.putfield 99, 3) := sorry
theorem dX1_restore_30 : decode cX1_restore 30 = .ok (.iconst 0, 1) := sorry
theorem dX1_restore_31 : decode cX1_restore 31 = .ok (.istore_n 1, 1) := sorry
theorem dX1_restore_32 : decode cX1_restore 32 = .ok (.iload_n 1, 1) := sorry
theorem dX1_restore_33 : decode cX1_restore 33 = .ok (.bipush 16, 2) := sorry
theorem dX1_restore_35 : decode cX1_restore 35 = .ok (.if_icmp .ge 36, 3) := sorry
theorem dX1_restore_71 : decode cX1_restore 71 = .ok (.return_, 1) := sorry
theorem dX1_restore_38 : decode cX1_restore 38 = .ok (.aload_n 0, 1) := sorry
theorem dX1_restore_39 : decode cX1_restore 39 = .ok (.getfield 11, 3) := sorry
theorem dX1_restore_42 : decode cX1_restore 42 = .ok (.iload_n 1, 1) := sorry
theorem dX1_restore_43 : decode cX1_restore 43 = .ok (.aaload, 1) := sorry
theorem dX1_restore_44 : decode cX1_restore 44 = .ok (.aload_n 0, 1) := sorry
theorem dX1_restore_45 : decode cX1_restore 45 = .ok (.getfield 26, 3) := sorry
theorem dX1_restore_48 : decode cX1_restore 48 = .ok (.iload_n 1, 1) := sorry
theorem dX1_restore_49 : decode cX1_restore 49 = .ok (.aaload, 1) := sorry
theorem dX1_restore_50 : decode cX1_restore 50 = .ok (.invokevirtual 105, 3) := sorry
theorem dX1_restore_53 : decode cX1_restore 53 = .ok (.aload_n 0, 1) := sorry
theorem dX1_restore_54 : decode cX1_restore 54 = .ok (.getfield 17, 3) := sorry
theorem dX1_restore_57 : decode cX1_restore 57 = .ok (.iload_n 1, 1) := sorry
theorem dX1_restore_58 : decode cX1_restore 58 = .ok (.aload_n 0, 1) := sorry
theorem dX1_restore_59 : decode cX1_restore 59 = .ok (.getfield 29, 3) := sorry
theorem dX1_restore_62 : decode cX1_restore 62 = .ok (.iload_n 1, 1) := sorry
theorem dX1_restore_63 : decode cX1_restore 63 = .ok (.iaload, 1) := sorry
theorem dX1_restore_64 : decode cX1_restore 64 = .ok (.iastore, 1) := sorry
theorem dX1_restore_65 : decode cX1_restore 65 = .ok (.iinc 1 1, 3) := sorry
theorem dX1_restore_68 : decode cX1_restore 68 = .ok (.goto (-36), 3) := sorry
set_option maxHeartbeats 4000000 in
set_option maxRecDepth 100000 in
theorem k_X1_restore (l : Launch) (D : va_G) (cy : Nat → ClassId) (ld : Nat → Nat) (t : tk_T) (a0 : Nat) (ht_a0 : t a0 = (2, 0, 0)) : Met l yX1_restore (wl yX1_restore cX1_restore 2 none) ({ frames := 5, cells := 0, slots := 0, locals := 280 }) (tp D cy ld t [] [.ref a0] (fun H => True)) (tv D cy ld t [] (fun H => True) (tk_w t [(20, 0, 0), (10, 0, 0), (2, 0, 0), (20, 1, 1), (10, 1, 1)])) 0 0 (tk_w t [(20, 0, 0), (10, 0, 0), (2, 0, 0), (20, 1, 1), (10, 1, 1)]) := by sorry
theorem dX2_copyFrom_0 : decode cX2_copyFrom 0 = .ok (.aload_n 0, 1) := sorry
theorem dX2_copyFrom_1 : decode cX2_copyFrom 1 = .ok (.aload_n 1, 1) := sorry
theorem dX2_copyFrom_2 : decode cX2_copyFrom 2 = .ok (.getfield 62, 3) := sorry
theorem dX2_copyFrom_5 : decode cX2_copyFrom 5 = .ok (.putfield 62, 3) := sorry
theorem dX2_copyFrom_8 : decode cX2_copyFrom 8 = .ok (.aload_n 1, 1) := sorry
theorem dX2_copyFrom_9 : decode cX2_copyFrom 9 = .ok (.getfield 9, 3) := sorry
theorem dX2_copyFrom_12 : decode cX2_copyFrom 12 = .ok (.iconst 0, 1) := sorry
theorem dX2_copyFrom_13 : decode cX2_copyFrom 13 = .ok (.aload_n 0, 1) := sorry
theorem dX2_copyFrom_14 : decode cX2_copyFrom 14 = .ok (.getfield 9, 3) := sorry
theorem dX2_copyFrom_17 : decode cX2_copyFrom 17 = .ok (.iconst 0, 1) := sorry
theorem dX2_copyFrom_18 : decode cX2_copyFrom 18 = .ok (.bipush 8, 2) := sorry
theorem dX2_copyFrom_20 : decode cX2_copyFrom 20 = .ok (.invokestatic 65, 3) := sorry
theorem dX2_copyFrom_23 : decode cX2_copyFrom 23 = .ok (.aload_n 1, 1) := sorry
theorem dX2_copyFrom_24 : decode cX2_copyFrom 24 = .ok (.getfield 15, 3) := sorry
theorem dX2_copyFrom_27 : decode cX2_copyFrom 27 = .ok (.iconst 0, 1) := sorry
theorem dX2_copyFrom_28 : decode cX2_copyFrom 28 = .ok (.aload_n 0, 1) := sorry
theorem dX2_copyFrom_29 : decode cX2_copyFrom 29 = .ok (.getfield 15, 3) := sorry
theorem dX2_copyFrom_32 : decode cX2_copyFrom 32 = .ok (.iconst 0, 1) := sorry
theorem dX2_copyFrom_33 : decode cX2_copyFrom 33 = .ok (.bipush 8, 2) := sorry
theorem dX2_copyFrom_35 : decode cX2_copyFrom 35 = .ok (.invokestatic 65, 3) := sorry
theorem dX2_copyFrom_38 : decode cX2_copyFrom 38 = .ok (.aload_n 1, 1) := sorry
theorem dX2_copyFrom_39 : decode cX2_copyFrom 39 = .ok (.getfield 18, 3) := sorry
theorem dX2_copyFrom_42 : decode cX2_copyFrom 42 = .ok (.iconst 0, 1) := sorry
theorem dX2_copyFrom_43 : decode cX2_copyFrom 43 = .ok (.aload_n 0, 1) := sorry
theorem dX2_copyFrom_44 : decode cX2_copyFrom 44 = .ok (.getfield 18, 3) := sorry
theorem dX2_copyFrom_47 : decode cX2_copyFrom 47 = .ok (.iconst 0, 1) := sorry
theorem dX2_copyFrom_48 : decode cX2_copyFrom 48 = .ok (.bipush 8, 2) := sorry
theorem dX2_copyFrom_50 : decode cX2_copyFrom 50 = .ok (.invokestatic 65, 3) := sorry
theorem dX2_copyFrom_53 : decode cX2_copyFrom 53 = .ok (.aload_n 0, 1) := sorry
theorem dX2_copyFrom_54 : decode cX2_copyFrom 54 = .ok (.aload_n 1, 1) := sorry
theorem dX2_copyFrom_55 : decode cX2_copyFrom 55 = .ok (.getfield 71, 3) := sorry
theorem dX2_copyFrom_58 : decode cX2_copyFrom 58 = .ok (.putfield 71, 3) := sorry
theorem dX2_copyFrom_61 : decode cX2_copyFrom 61 = .ok (.aload_n 1, 1) := sorry
theorem dX2_copyFrom_62 : decode cX2_copyFrom 62 = .ok (.getfield 21, 3) := sorry
theorem dX2_copyFrom_65 : decode cX2_copyFrom 65 = .ok (.iconst 0, 1) := sorry
theorem dX2_copyFrom_66 : decode cX2_copyFrom 66 = .ok (.aload_n 0, 1) := sorry
theorem dX2_copyFrom_67 : decode cX2_copyFrom 67 = .ok (.getfield 21, 3) := sorry
theorem dX2_copyFrom_70 : decode cX2_copyFrom 70 = .ok (.iconst 0, 1) := sorry
theorem dX2_copyFrom_71 : decode cX2_copyFrom 71 = .ok (.bipush 10, 2) := sorry
theorem dX2_copyFrom_73 : decode cX2_copyFrom 73 = .ok (.invokestatic 65, 3) := sorry
theorem dX2_copyFrom_76 : decode cX2_copyFrom 76 = .ok (.aload_n 1, 1) := sorry
theorem dX2_copyFrom_77 : decode cX2_copyFrom 77 = .ok (.getfield 24, 3) := sorry
theorem dX2_copyFrom_80 : decode cX2_copyFrom 80 = .ok (.iconst 0, 1) := sorry
theorem dX2_copyFrom_81 : decode cX2_copyFrom 81 = .ok (.aload_n 0, 1) := sorry
theorem dX2_copyFrom_82 : decode cX2_copyFrom 82 = .ok (.getfield 24, 3) := sorry
theorem dX2_copyFrom_85 : decode cX2_copyFrom 85 = .ok (.iconst 0, 1) := sorry
theorem dX2_copyFrom_86 : decode cX2_copyFrom 86 = .ok (.bipush 10, 2) := sorry
theorem dX2_copyFrom_88 : decode cX2_copyFrom 88 = .ok (.invokestatic 65, 3) := sorry
theorem dX2_copyFrom_91 : decode cX2_copyFrom 91 = .ok (.aload_n 0, 1) := sorry
theorem dX2_copyFrom_92 : decode cX2_copyFrom 92 = .ok (.aload_n 1, 1) := sorry
theorem dX2_copyFrom_93 : decode cX2_copyFrom 93 = .ok (.getfield 74, 3) := sorry
theorem dX2_copyFrom_96 : decode cX2_copyFrom 96 = .ok (.putfield 74, 3) := sorry
theorem dX2_copyFrom_99 : decode cX2_copyFrom 99 = .ok (.aload_n 1, 1) := sorry
theorem dX2_copyFrom_100 : decode cX2_copyFrom 100 = .ok (.getfield 27, 3) := sorry
theorem dX2_copyFrom_103 : decode cX2_copyFrom 103 = .ok (.iconst 0, 1) := sorry
theorem dX2_copyFrom_104 : decode cX2_copyFrom 104 = .ok (.aload_n 0, 1) := sorry
theorem dX2_copyFrom_105 : decode cX2_copyFrom 105 = .ok (.getfield 27, 3) := sorry
theorem dX2_copyFrom_108 : decode cX2_copyFrom 108 = .ok (.iconst 0, 1) := sorry
theorem dX2_copyFrom_109 : decode cX2_copyFrom 109 = .ok (.bipush 10, 2) := sorry
theorem dX2_copyFrom_111 : decode cX2_copyFrom 111 = .ok (.invokestatic 65, 3) := sorry
theorem dX2_copyFrom_114 : decode cX2_copyFrom 114 = .ok (.aload_n 1, 1) := sorry
theorem dX2_copyFrom_115 : decode cX2_copyFrom 115 = .ok (.getfield 30, 3) := sorry
theorem dX2_copyFrom_118 : decode cX2_copyFrom 118 = .ok (.iconst 0, 1) := sorry
theorem dX2_copyFrom_119 : decode cX2_copyFrom 119 = .ok (.aload_n 0, 1) := sorry
theorem dX2_copyFrom_120 : decode cX2_copyFrom 120 = .ok (.getfield 30, 3) := sorry
theorem dX2_copyFrom_123 : decode cX2_copyFrom 123 = .ok (.iconst 0, 1) := sorry
theorem dX2_copyFrom_124 : decode cX2_copyFrom 124 = .ok (.bipush 10, 2) := sorry
theorem dX2_copyFrom_126 : decode cX2_copyFrom 126 = .ok (.invokestatic 65, 3) := sorry
theorem dX2_copyFrom_129 : decode cX2_copyFrom 129 = .ok (.aload_n 1, 1) := sorry
theorem dX2_copyFrom_130 : decode cX2_copyFrom 130 = .ok (.getfield 33, 3) := sorry
theorem dX2_copyFrom_133 : decode cX2_copyFrom 133 = .ok (.iconst 0, 1) := sorry
theorem dX2_copyFrom_134 : decode cX2_copyFrom 134 = .ok (.aload_n 0, 1) := sorry
theorem dX2_copyFrom_135 : decode cX2_copyFrom 135 = .ok (.getfield 33, 3) := sorry
theorem dX2_copyFrom_138 : decode cX2_copyFrom 138 = .ok (.iconst 0, 1) := sorry
theorem dX2_copyFrom_139 : decode cX2_copyFrom 139 = .ok (.bipush 10, 2) := sorry
theorem dX2_copyFrom_141 : decode cX2_copyFrom 141 = .ok (.invokestatic 65, 3) := sorry
theorem dX2_copyFrom_144 : decode cX2_copyFrom 144 = .ok (.aload_n 0, 1) := sorry
theorem dX2_copyFrom_145 : decode cX2_copyFrom 145 = .ok (.aload_n 1, 1) := sorry
theorem dX2_copyFrom_146 : decode cX2_copyFrom 146 = .ok (.getfield 77, 3) := sorry
theorem dX2_copyFrom_149 : decode cX2_copyFrom 149 = .ok (.putfield 77, 3) := sorry
theorem dX2_copyFrom_152 : decode cX2_copyFrom 152 = .ok (.aload_n 1, 1) := sorry
theorem dX2_copyFrom_153 : decode cX2_copyFrom 153 = .ok (.getfield 36, 3) := sorry
theorem dX2_copyFrom_156 : decode cX2_copyFrom 156 = .ok (.iconst 0, 1) := sorry
theorem dX2_copyFrom_157 : decode cX2_copyFrom 157 = .ok (.aload_n 0, 1) := sorry
theorem dX2_copyFrom_158 : decode cX2_copyFrom 158 = .ok (.getfield 36, 3) := sorry
theorem dX2_copyFrom_161 : decode cX2_copyFrom 161 = .ok (.iconst 0, 1) := sorry
theorem dX2_copyFrom_162 : decode cX2_copyFrom 162 = .ok (.aload_n 0, 1) := sorry
theorem dX2_copyFrom_163 : decode cX2_copyFrom 163 = .ok (.getfield 36, 3) := sorry
theorem dX2_copyFrom_166 : decode cX2_copyFrom 166 = .ok (.arraylength, 1) := sorry
theorem dX2_copyFrom_167 : decode cX2_copyFrom 167 = .ok (.invokestatic 65, 3) := sorry
theorem dX2_copyFrom_170 : decode cX2_copyFrom 170 = .ok (.aload_n 0, 1) := sorry
theorem dX2_copyFrom_171 : decode cX2_copyFrom 171 = .ok (.aload_n 1, 1) := sorry
theorem dX2_copyFrom_172 : decode cX2_copyFrom 172 = .ok (.getfield 80, 3) := sorry
theorem dX2_copyFrom_175 : decode cX2_copyFrom 175 = .ok (.putfield 80, 3) := sorry
theorem dX2_copyFrom_178 : decode cX2_copyFrom 178 = .ok (.iconst 0, 1) := sorry
theorem dX2_copyFrom_179 : decode cX2_copyFrom 179 = .ok (.istore_n 2, 1) := sorry
theorem dX2_copyFrom_180 : decode cX2_copyFrom 180 = .ok (.iload_n 2, 1) := sorry
theorem dX2_copyFrom_181 : decode cX2_copyFrom 181 = .ok (.bipush 6, 2) := sorry
theorem dX2_copyFrom_183 : decode cX2_copyFrom 183 = .ok (.if_icmp .ge 21, 3) := sorry
theorem dX2_copyFrom_204 : decode cX2_copyFrom 204 = .ok (.aload_n 0, 1) := sorry
theorem dX2_copyFrom_205 : decode cX2_copyFrom 205 = .ok (.aload_n 1, 1) := sorry
theorem dX2_copyFrom_206 : decode cX2_copyFrom 206 = .ok (.getfield 45, 3) := sorry
theorem dX2_copyFrom_209 : decode cX2_copyFrom 209 = .ok (.putfield 45, 3) := sorry
theorem dX2_copyFrom_212 : decode cX2_copyFrom 212 = .ok (.aload_n 0, 1) := sorry
theorem dX2_copyFrom_213 : decode cX2_copyFrom 213 = .ok (.aload_n 1, 1) := sorry
theorem dX2_copyFrom_214 : decode cX2_copyFrom 214 = .ok (.getfield 49, 3) := sorry
theorem dX2_copyFrom_217 : decode cX2_copyFrom 217 = .ok (.putfield 49, 3) := sorry
theorem dX2_copyFrom_220 : decode cX2_copyFrom 220 = .ok (.aload_n 0, 1) := sorry
theorem dX2_copyFrom_221 : decode cX2_copyFrom 221 = .ok (.aload_n 1, 1) := sorry
theorem dX2_copyFrom_222 : decode cX2_copyFrom 222 = .ok (.getfield 52, 3) := sorry
theorem dX2_copyFrom_225 : decode cX2_copyFrom 225 = .ok (.putfield 52, 3) := sorry
theorem dX2_copyFrom_228 : decode cX2_copyFrom 228 = .ok (.aload_n 0, 1) := sorry
theorem dX2_copyFrom_229 : decode cX2_copyFrom 229 = .ok (.aload_n 1, 1) := sorry
theorem dX2_copyFrom_230 : decode cX2_copyFrom 230 = .ok (.getfield 83, 3) := sorry
theorem dX2_copyFrom_233 : decode cX2_copyFrom 233 = .ok (.putfield 83, 3) := sorry
theorem dX2_copyFrom_236 : decode cX2_copyFrom 236 = .ok (.aload_n 0, 1) := sorry
theorem dX2_copyFrom_237 : decode cX2_copyFrom 237 = .ok (.getfield 58, 3) := sorry
theorem dX2_copyFrom_240 : decode cX2_copyFrom 240 = .ok (.aload_n 1, 1) := sorry
theorem dX2_copyFrom_241 : decode cX2_copyFrom 241 = .ok (.getfield 58, 3) := sorry
theorem dX2_copyFrom_244 : decode cX2_copyFrom 244 = .ok (.invokevirtual 86, 3) := sorry
theorem dX2_copyFrom_247 : decode cX2_copyFrom 247 = .ok (.return_, 1) := sorry
theorem dX2_copyFrom_186 : decode cX2_copyFrom 186 = .ok (.aload_n 0, 1) := sorry
theorem dX2_copyFrom_187 : decode cX2_copyFrom 187 = .ok (.getfield 41, 3) := sorry
theorem dX2_copyFrom_190 : decode cX2_copyFrom 190 = .ok (.iload_n 2, 1) := sorry
theorem dX2_copyFrom_191 : decode cX2_copyFrom 191 = .ok (.aload_n 1, 1) := sorry
theorem dX2_copyFrom_192 : decode cX2_copyFrom 192 = .ok (.getfield 41, 3) := sorry
theorem dX2_copyFrom_195 : decode cX2_copyFrom 195 = .ok (.iload_n 2, 1) := sorry
theorem dX2_copyFrom_196 : decode cX2_copyFrom 196 = .ok (.aaload, 1) := sorry
theorem dX2_copyFrom_198 : decode cX2_copyFrom 198 = .ok (.iinc 2 1, 3) := sorry
theorem dX2_copyFrom_201 : decode cX2_copyFrom 201 = .ok (.goto (-21), 3) := sorry
theorem dX2_copyFrom_197 : decode cX2_copyFrom 197 = .ok (.aastore, 1) := sorry
set_option maxHeartbeats 4000000 in
set_option maxRecDepth 100000 in
theorem k_X2_copyFrom (l : Launch) (D : va_G) (cy : Nat → ClassId) (ld : Nat → Nat) (t : tk_T) (rg0 : Nat) (rg1 : Nat) (a0 : Nat) (a1 : Nat) (ht_a0 : t a0 = (3, 0, rg0)) (ht_a1 : t a1 = (3, 0, rg1)) (hi_0 : rg0 ≠ rg1) : Met l yX2_copyFrom (wl yX2_copyFrom cX2_copyFrom 3 none) ({ frames := 5, cells := 0, slots := 0, locals := 280 }) (tp D cy ld t [] [.ref a0, .ref a1] (fun H => True)) (tv D cy ld t [] (fun H => True) (tk_w t [(3, rg0, rg0), (20, rg0, rg0), (21, rg0, rg0), (32, rg0, rg0), (33, rg0, rg0), (34, rg0, rg0), (35, rg0, rg0), (36, rg0, rg0), (37, rg0, rg0), (24, rg0, rg0), (28, rg0, rg0), (10, rg0, rg0)])) 0 0 (tk_w t [(3, rg0, rg0), (20, rg0, rg0), (21, rg0, rg0), (32, rg0, rg0), (33, rg0, rg0), (34, rg0, rg0), (35, rg0, rg0), (36, rg0, rg0), (37, rg0, rg0), (24, rg0, rg0), (28, rg0, rg0), (10, rg0, rg0)]) := by sorry
theorem dX2_isOfClan_0 : decode cX2_isOfClan 0 = .ok (.aload_n 0, 1) := sorry
theorem dX2_isOfClan_1 : decode cX2_isOfClan 1 = .ok (.iload_n 1, 1) := sorry
theorem dX2_isOfClan_2 : decode cX2_isOfClan 2 = .ok (.invokevirtual 90, 3) := sorry
theorem dX2_isOfClan_5 : decode cX2_isOfClan 5 = .ok (.ifCond .eq 17, 3) := sorry
theorem dX2_isOfClan_22 : decode cX2_isOfClan 22 = .ok (.iconst 0, 1) := sorry
theorem dX2_isOfClan_23 : decode cX2_isOfClan 23 = .ok (.ireturn, 1) := sorry
theorem dX2_isOfClan_8 : decode cX2_isOfClan 8 = .ok (.aload_n 0, 1) := sorry
theorem dX2_isOfClan_9 : decode cX2_isOfClan 9 = .ok (.getfield 15, 3) := sorry
theorem dX2_isOfClan_12 : decode cX2_isOfClan 12 = .ok (.iload_n 1, 1) := sorry
theorem dX2_isOfClan_13 : decode cX2_isOfClan 13 = .ok (.iaload, 1) := sorry
theorem dX2_isOfClan_14 : decode cX2_isOfClan 14 = .ok (.iload_n 2, 1) := sorry
theorem dX2_isOfClan_15 : decode cX2_isOfClan 15 = .ok (.if_icmp .ne 7, 3) := sorry
theorem dX2_isOfClan_18 : decode cX2_isOfClan 18 = .ok (.iconst 1, 1) := sorry
theorem dX2_isOfClan_19 : decode cX2_isOfClan 19 = .ok (.goto 4, 3) := sorry
set_option maxHeartbeats 4000000 in
set_option maxRecDepth 100000 in
theorem k_X2_isOfClan (l : Launch) (D : va_G) (cy : Nat → ClassId) (ld : Nat → Nat) (t : tk_T) (a0 : Nat) (p1 : Int32) (p2 : Int32) (ht_a0 : t a0 = (3, 0, 0)) : Met l yX2_isOfClan (wl yX2_isOfClan cX2_isOfClan 3 (some .boolean)) ({ frames := 4, cells := 0, slots := 0, locals := 210 }) (tp D cy ld t [] [.ref a0, .int p1, .int p2] (fun H => True)) (ti D cy ld t [] (fun r H => (1 ≤ r.toInt → 0 ≤ p1.toInt ∧ p1.toInt ≤ 7) ∧ 0 ≤ r.toInt ∧ r.toInt ≤ 1 ∧ 0 ≤ r.toInt ∧ r.toInt ≤ 1) (tk_w t [])) 0 0 (tk_w t []) := by sorry
theorem dX2_addSinger_0 : decode cX2_addSinger 0 = .ok (.iload_n 1, 1) := sorry
theorem dX2_addSinger_1 : decode cX2_addSinger 1 = .ok (.iconst 0, 1) := sorry
theorem dX2_addSinger_2 : decode cX2_addSinger 2 = .ok (.sipush 999, 3) := sorry
theorem dX2_addSinger_5 : decode cX2_addSinger 5 = .ok (.invokestatic 94, 3) := sorry
theorem dX2_addSinger_8 : decode cX2_addSinger 8 = .ok (.ifCond .eq 22, 3) := sorry
theorem dX2_addSinger_30 : decode cX2_addSinger 30 = .ok (.iconst (-1), 1) := sorry
theorem dX2_addSinger_31 : decode cX2_addSinger 31 = .ok (.ireturn, 1) := sorry
theorem dX2_addSinger_11 : decode cX2_addSinger 11 = .ok (.iload_n 2, 1) := sorry
theorem dX2_addSinger_12 : decode cX2_addSinger 12 = .ok (.iconst 0, 1) := sorry
theorem dX2_addSinger_13 : decode cX2_addSinger 13 = .ok (.bipush 9, 2) := sorry
theorem dX2_addSinger_15 : decode cX2_addSinger 15 = .ok (.invokestatic 94, 3) := sorry
theorem dX2_addSinger_18 : decode cX2_addSinger 18 = .ok (.ifCond .eq 12, 3) := sorry
theorem dX2_addSinger_21 : decode cX2_addSinger 21 = .ok (.iload_n 3, 1) := sorry
theorem dX2_addSinger_22 : decode cX2_addSinger 22 = .ok (.iconst 0, 1) := sorry
theorem dX2_addSinger_23 : decode cX2_addSinger 23 = .ok (.iconst 1, 1) := sorry
theorem dX2_addSinger_24 : decode cX2_addSinger 24 = .ok (.invokestatic 94, 3) := sorry
theorem dX2_addSinger_27 : decode cX2_addSinger 27 = .ok (.ifCond .ne 5, 3) := sorry
theorem dX2_addSinger_32 : decode cX2_addSinger 32 = .ok (.aload_n 0, 1) := sorry
theorem dX2_addSinger_33 : decode cX2_addSinger 33 = .ok (.getfield 62, 3) := sorry
theorem dX2_addSinger_36 : decode cX2_addSinger 36 = .ok (.bipush 8, 2) := sorry
theorem dX2_addSinger_38 : decode cX2_addSinger 38 = .ok (.if_icmp .lt 6, 3) := sorry
theorem dX2_addSinger_44 : decode cX2_addSinger 44 = .ok (.aload_n 0, 1) := sorry
theorem dX2_addSinger_45 : decode cX2_addSinger 45 = .ok (.getfield 62, 3) := sorry
theorem dX2_addSinger_48 : decode cX2_addSinger 48 = .ok (.istore 4, 2) := sorry
theorem dX2_addSinger_50 : decode cX2_addSinger 50 = .ok (.aload_n 0, 1) := sorry
theorem dX2_addSinger_51 : decode cX2_addSinger 51 = .ok (.getfield 9, 3) := sorry
theorem dX2_addSinger_54 : decode cX2_addSinger 54 = .ok (.iload 4, 2) := sorry
theorem dX2_addSinger_56 : decode cX2_addSinger 56 = .ok (.iload_n 2, 1) := sorry
theorem dX2_addSinger_57 : decode cX2_addSinger 57 = .ok (.iastore, 1) := sorry
theorem dX2_addSinger_58 : decode cX2_addSinger 58 = .ok (.aload_n 0, 1) := sorry
theorem dX2_addSinger_59 : decode cX2_addSinger 59 = .ok (.getfield 15, 3) := sorry
theorem dX2_addSinger_62 : decode cX2_addSinger 62 = .ok (.iload 4, 2) := sorry
theorem dX2_addSinger_64 : decode cX2_addSinger 64 = .ok (.iload_n 3, 1) := sorry
theorem dX2_addSinger_65 : decode cX2_addSinger 65 = .ok (.iastore, 1) := sorry
theorem dX2_addSinger_66 : decode cX2_addSinger 66 = .ok (.aload_n 0, 1) := sorry
theorem dX2_addSinger_67 : decode cX2_addSinger 67 = .ok (.getfield 18, 3) := sorry
theorem dX2_addSinger_70 : decode cX2_addSinger 70 = .ok (.iload 4, 2) := sorry
theorem dX2_addSinger_72 : decode cX2_addSinger 72 = .ok (.iconst 0, 1) := sorry
theorem dX2_addSinger_73 : decode cX2_addSinger 73 = .ok (.iastore, 1) := sorry
theorem dX2_addSinger_74 : decode cX2_addSinger 74 = .ok (.aload_n 0, 1) := sorry
theorem dX2_addSinger_75 : decode cX2_addSinger 75 = .ok (.getfield 58, 3) := sorry
theorem dX2_addSinger_78 : decode cX2_addSinger 78 = .ok (.getfield 98, 3) := sorry
theorem dX2_addSinger_81 : decode cX2_addSinger 81 = .ok (.iload 4, 2) := sorry
theorem dX2_addSinger_83 : decode cX2_addSinger 83 = .ok (.iload_n 1, 1) := sorry
theorem dX2_addSinger_84 : decode cX2_addSinger 84 = .ok (.iastore, 1) := sorry
theorem dX2_addSinger_85 : decode cX2_addSinger 85 = .ok (.aload_n 0, 1) := sorry
theorem dX2_addSinger_86 : decode cX2_addSinger 86 = .ok (.getfield 58, 3) := sorry
theorem dX2_addSinger_89 : decode cX2_addSinger 89 = .ok (.getfield 101, 3) := sorry
theorem dX2_addSinger_92 : decode cX2_addSinger 92 = .ok (.iload 4, 2) := sorry
theorem dX2_addSinger_94 : decode cX2_addSinger 94 = .ok (.iconst 0, 1) := sorry
theorem dX2_addSinger_95 : decode cX2_addSinger 95 = .ok (.iastore, 1) := sorry
theorem dX2_addSinger_96 : decode cX2_addSinger 96 = .ok (.aload_n 0, 1) := sorry
theorem dX2_addSinger_97 : decode cX2_addSinger 97 = .ok (.getfield 58, 3) := sorry
theorem dX2_addSinger_100 : decode cX2_addSinger 100 = .ok (.getfield 104, 3) := sorry
theorem dX2_addSinger_103 : decode cX2_addSinger 103 = .ok (.iload 4, 2) := sorry
theorem dX2_addSinger_105 : decode cX2_addSinger 105 = .ok (.iconst 0, 1) := sorry
theorem dX2_addSinger_106 : decode cX2_addSinger 106 = .ok (.iastore, 1) := sorry
theorem dX2_addSinger_107 : decode cX2_addSinger 107 = .ok (.aload_n 0, 1) := sorry
theorem dX2_addSinger_108 : decode cX2_addSinger 108 = .ok (.dup, 1) := sorry
theorem dX2_addSinger_109 : decode cX2_addSinger 109 = .ok (.getfield 62, 3) := sorry
theorem dX2_addSinger_112 : decode cX2_addSinger 112 = .ok (.iconst 1, 1) := sorry
theorem dX2_addSinger_113 : decode cX2_addSinger 113 = .ok (.iadd, 1) := sorry
theorem dX2_addSinger_114 : decode cX2_addSinger 114 = .ok (.putfield 62, 3) := sorry
theorem dX2_addSinger_117 : decode cX2_addSinger 117 = .ok (.iload 4, 2) := sorry
theorem dX2_addSinger_119 : decode cX2_addSinger 119 = .ok (.ireturn, 1) := sorry
theorem dX2_addSinger_41 : decode cX2_addSinger 41 = .ok (.bipush (-5), 2) := sorry
theorem dX2_addSinger_43 : decode cX2_addSinger 43 = .ok (.ireturn, 1) := sorry
set_option maxHeartbeats 4000000 in
set_option maxRecDepth 100000 in
theorem k_X2_addSinger (l : Launch) (D : va_G) (cy : Nat → ClassId) (ld : Nat → Nat) (t : tk_T) (a0 : Nat) (p1 : Int32) (p2 : Int32) (p3 : Int32) (ht_a0 : t a0 = (3, 0, 0)) : Met l yX2_addSinger (wl yX2_addSinger cX2_addSinger 5 (some .int)) ({ frames := 4, cells := 0, slots := 0, locals := 210 }) (tp D cy ld t [] [.ref a0, .int p1, .int p2, .int p3] (fun H => True)) (ti D cy ld t [] (fun r H => (-5) ≤ r.toInt ∧ r.toInt ≤ 7) (tk_w t [(20, 0, 0), (21, 0, 0), (32, 0, 0), (3, 0, 0)])) 0 0 (tk_w t [(20, 0, 0), (21, 0, 0), (32, 0, 0), (3, 0, 0)]) := by sorry
theorem dX2_addVerse_0 : decode cX2_addVerse 0 = .ok (.iload_n 1, 1) := sorry
theorem dX2_addVerse_1 : decode cX2_addVerse 1 = .ok (.iconst 1, 1) := sorry
theorem dX2_addVerse_2 : decode cX2_addVerse 2 = .ok (.bipush 99, 2) := sorry
theorem dX2_addVerse_4 : decode cX2_addVerse 4 = .ok (.invokestatic 94, 3) := sorry
theorem dX2_addVerse_7 : decode cX2_addVerse 7 = .ok (.ifCond .eq 12, 3) := sorry
theorem dX2_addVerse_19 : decode cX2_addVerse 19 = .ok (.iconst (-1), 1) := sorry
theorem dX2_addVerse_20 : decode cX2_addVerse 20 = .ok (.ireturn, 1) := sorry
theorem dX2_addVerse_10 : decode cX2_addVerse 10 = .ok (.iload_n 2, 1) := sorry
theorem dX2_addVerse_11 : decode cX2_addVerse 11 = .ok (.iconst 0, 1) := sorry
theorem dX2_addVerse_12 : decode cX2_addVerse 12 = .ok (.iconst 4, 1) := sorry
theorem dX2_addVerse_13 : decode cX2_addVerse 13 = .ok (.invokestatic 94, 3) := sorry
theorem dX2_addVerse_16 : decode cX2_addVerse 16 = .ok (.ifCond .ne 5, 3) := sorry
theorem dX2_addVerse_21 : decode cX2_addVerse 21 = .ok (.aload_n 0, 1) := sorry
theorem dX2_addVerse_22 : decode cX2_addVerse 22 = .ok (.getfield 71, 3) := sorry
theorem dX2_addVerse_25 : decode cX2_addVerse 25 = .ok (.bipush 10, 2) := sorry
theorem dX2_addVerse_27 : decode cX2_addVerse 27 = .ok (.if_icmp .lt 6, 3) := sorry
theorem dX2_addVerse_33 : decode cX2_addVerse 33 = .ok (.aload_n 0, 1) := sorry
theorem dX2_addVerse_34 : decode cX2_addVerse 34 = .ok (.getfield 21, 3) := sorry
theorem dX2_addVerse_37 : decode cX2_addVerse 37 = .ok (.aload_n 0, 1) := sorry
theorem dX2_addVerse_38 : decode cX2_addVerse 38 = .ok (.getfield 71, 3) := sorry
theorem dX2_addVerse_41 : decode cX2_addVerse 41 = .ok (.iload_n 1, 1) := sorry
theorem dX2_addVerse_42 : decode cX2_addVerse 42 = .ok (.iastore, 1) := sorry
theorem dX2_addVerse_43 : decode cX2_addVerse 43 = .ok (.aload_n 0, 1) := sorry
theorem dX2_addVerse_44 : decode cX2_addVerse 44 = .ok (.getfield 24, 3) := sorry
theorem dX2_addVerse_47 : decode cX2_addVerse 47 = .ok (.aload_n 0, 1) := sorry
theorem dX2_addVerse_48 : decode cX2_addVerse 48 = .ok (.getfield 71, 3) := sorry
theorem dX2_addVerse_51 : decode cX2_addVerse 51 = .ok (.iload_n 2, 1) := sorry
theorem dX2_addVerse_52 : decode cX2_addVerse 52 = .ok (.iastore, 1) := sorry
theorem dX2_addVerse_53 : decode cX2_addVerse 53 = .ok (.aload_n 0, 1) := sorry
theorem dX2_addVerse_54 : decode cX2_addVerse 54 = .ok (.dup, 1) := sorry
theorem dX2_addVerse_55 : decode cX2_addVerse 55 = .ok (.getfield 71, 3) := sorry
theorem dX2_addVerse_58 : decode cX2_addVerse 58 = .ok (.iconst 1, 1) := sorry
theorem dX2_addVerse_59 : decode cX2_addVerse 59 = .ok (.iadd, 1) := sorry
theorem dX2_addVerse_60 : decode cX2_addVerse 60 = .ok (.putfield 71, 3) := sorry
theorem dX2_addVerse_63 : decode cX2_addVerse 63 = .ok (.aload_n 0, 1) := sorry
theorem dX2_addVerse_64 : decode cX2_addVerse 64 = .ok (.getfield 71, 3) := sorry
theorem dX2_addVerse_67 : decode cX2_addVerse 67 = .ok (.iconst 1, 1) := sorry
theorem dX2_addVerse_68 : decode cX2_addVerse 68 = .ok (.isub, 1) := sorry
theorem dX2_addVerse_69 : decode cX2_addVerse 69 = .ok (.ireturn, 1) := sorry
theorem dX2_addVerse_30 : decode cX2_addVerse 30 = .ok (.bipush (-5), 2) := sorry
theorem dX2_addVerse_32 : decode cX2_addVerse 32 = .ok (.ireturn, 1) := sorry
set_option maxHeartbeats 4000000 in
set_option maxRecDepth 100000 in
theorem k_X2_addVerse (l : Launch) (D : va_G) (cy : Nat → ClassId) (ld : Nat → Nat) (t : tk_T) (a0 : Nat) (p1 : Int32) (p2 : Int32) (ht_a0 : t a0 = (3, 0, 0)) : Met l yX2_addVerse (wl yX2_addVerse cX2_addVerse 3 (some .int)) ({ frames := 4, cells := 0, slots := 0, locals := 210 }) (tp D cy ld t [] [.ref a0, .int p1, .int p2] (fun H => True)) (ti D cy ld t [] (fun r H => (-5) ≤ r.toInt ∧ r.toInt ≤ 9) (tk_w t [(33, 0, 0), (34, 0, 0), (3, 0, 0)])) 0 0 (tk_w t [(33, 0, 0), (34, 0, 0), (3, 0, 0)]) := by sorry
theorem dX2_addPart_0 : decode cX2_addPart 0 = .ok (.iload_n 1, 1) := sorry
theorem dX2_addPart_1 : decode cX2_addPart 1 = .ok (.iconst 1, 1) := sorry
theorem dX2_addPart_2 : decode cX2_addPart 2 = .ok (.bipush 99, 2) := sorry
theorem dX2_addPart_4 : decode cX2_addPart 4 = .ok (.invokestatic 94, 3) := sorry
theorem dX2_addPart_7 : decode cX2_addPart 7 = .ok (.ifCond .eq 22, 3) := sorry
theorem dX2_addPart_29 : decode cX2_addPart 29 = .ok (.iconst (-1), 1) := sorry
theorem dX2_addPart_30 : decode cX2_addPart 30 = .ok (.ireturn, 1) := sorry
theorem dX2_addPart_10 : decode cX2_addPart 10 = .ok (.iload_n 2, 1) := sorry
theorem dX2_addPart_11 : decode cX2_addPart 11 = .ok (.iconst 0, 1) := sorry
theorem dX2_addPart_12 : decode cX2_addPart 12 = .ok (.iconst 4, 1) := sorry
theorem dX2_addPart_13 : decode cX2_addPart 13 = .ok (.invokestatic 94, 3) := sorry
theorem dX2_addPart_16 : decode cX2_addPart 16 = .ok (.ifCond .eq 13, 3) := sorry
theorem dX2_addPart_19 : decode cX2_addPart 19 = .ok (.iload_n 3, 1) := sorry
theorem dX2_addPart_20 : decode cX2_addPart 20 = .ok (.iconst 1, 1) := sorry
theorem dX2_addPart_21 : decode cX2_addPart 21 = .ok (.bipush 9, 2) := sorry
theorem dX2_addPart_23 : decode cX2_addPart 23 = .ok (.invokestatic 94, 3) := sorry
theorem dX2_addPart_26 : decode cX2_addPart 26 = .ok (.ifCond .ne 5, 3) := sorry
theorem dX2_addPart_31 : decode cX2_addPart 31 = .ok (.aload_n 0, 1) := sorry
theorem dX2_addPart_32 : decode cX2_addPart 32 = .ok (.getfield 74, 3) := sorry
theorem dX2_addPart_35 : decode cX2_addPart 35 = .ok (.bipush 10, 2) := sorry
theorem dX2_addPart_37 : decode cX2_addPart 37 = .ok (.if_icmp .lt 6, 3) := sorry
theorem dX2_addPart_43 : decode cX2_addPart 43 = .ok (.aload_n 0, 1) := sorry
theorem dX2_addPart_44 : decode cX2_addPart 44 = .ok (.getfield 27, 3) := sorry
theorem dX2_addPart_47 : decode cX2_addPart 47 = .ok (.aload_n 0, 1) := sorry
theorem dX2_addPart_48 : decode cX2_addPart 48 = .ok (.getfield 74, 3) := sorry
theorem dX2_addPart_51 : decode cX2_addPart 51 = .ok (.iload_n 1, 1) := sorry
theorem dX2_addPart_52 : decode cX2_addPart 52 = .ok (.iastore, 1) := sorry
theorem dX2_addPart_53 : decode cX2_addPart 53 = .ok (.aload_n 0, 1) := sorry
theorem dX2_addPart_54 : decode cX2_addPart 54 = .ok (.getfield 30, 3) := sorry
theorem dX2_addPart_57 : decode cX2_addPart 57 = .ok (.aload_n 0, 1) := sorry
theorem dX2_addPart_58 : decode cX2_addPart 58 = .ok (.getfield 74, 3) := sorry
theorem dX2_addPart_61 : decode cX2_addPart 61 = .ok (.iload_n 2, 1) := sorry
theorem dX2_addPart_62 : decode cX2_addPart 62 = .ok (.iastore, 1) := sorry
theorem dX2_addPart_63 : decode cX2_addPart 63 = .ok (.aload_n 0, 1) := sorry
theorem dX2_addPart_64 : decode cX2_addPart 64 = .ok (.getfield 33, 3) := sorry
theorem dX2_addPart_67 : decode cX2_addPart 67 = .ok (.aload_n 0, 1) := sorry
theorem dX2_addPart_68 : decode cX2_addPart 68 = .ok (.getfield 74, 3) := sorry
theorem dX2_addPart_71 : decode cX2_addPart 71 = .ok (.iload_n 3, 1) := sorry
theorem dX2_addPart_72 : decode cX2_addPart 72 = .ok (.iastore, 1) := sorry
theorem dX2_addPart_73 : decode cX2_addPart 73 = .ok (.aload_n 0, 1) := sorry
theorem dX2_addPart_74 : decode cX2_addPart 74 = .ok (.dup, 1) := sorry
theorem dX2_addPart_75 : decode cX2_addPart 75 = .ok (.getfield 74, 3) := sorry
theorem dX2_addPart_78 : decode cX2_addPart 78 = .ok (.iconst 1, 1) := sorry
theorem dX2_addPart_79 : decode cX2_addPart 79 = .ok (.iadd, 1) := sorry
theorem dX2_addPart_80 : decode cX2_addPart 80 = .ok (.putfield 74, 3) := sorry
theorem dX2_addPart_83 : decode cX2_addPart 83 = .ok (.aload_n 0, 1) := sorry
theorem dX2_addPart_84 : decode cX2_addPart 84 = .ok (.getfield 74, 3) := sorry
theorem dX2_addPart_87 : decode cX2_addPart 87 = .ok (.iconst 1, 1) := sorry
theorem dX2_addPart_88 : decode cX2_addPart 88 = .ok (.isub, 1) := sorry
theorem dX2_addPart_89 : decode cX2_addPart 89 = .ok (.ireturn, 1) := sorry
theorem dX2_addPart_40 : decode cX2_addPart 40 = .ok (.bipush (-5), 2) := sorry
theorem dX2_addPart_42 : decode cX2_addPart 42 = .ok (.ireturn, 1) := sorry
set_option maxHeartbeats 4000000 in
set_option maxRecDepth 100000 in
theorem k_X2_addPart (l : Launch) (D : va_G) (cy : Nat → ClassId) (ld : Nat → Nat) (t : tk_T) (a0 : Nat) (p1 : Int32) (p2 : Int32) (p3 : Int32) (ht_a0 : t a0 = (3, 0, 0)) : Met l yX2_addPart (wl yX2_addPart cX2_addPart 4 (some .int)) ({ frames := 4, cells := 0, slots := 0, locals := 210 }) (tp D cy ld t [] [.ref a0, .int p1, .int p2, .int p3] (fun H => True)) (ti D cy ld t [] (fun r H => (-5) ≤ r.toInt ∧ r.toInt ≤ 9) (tk_w t [(35, 0, 0), (36, 0, 0), (37, 0, 0), (3, 0, 0)])) 0 0 (tk_w t [(35, 0, 0), (36, 0, 0), (37, 0, 0), (3, 0, 0)]) := by sorry
theorem dX2_addLaw_0 : decode cX2_addLaw 0 = .ok (.aload_n 0, 1) := sorry
theorem dX2_addLaw_1 : decode cX2_addLaw 1 = .ok (.getfield 80, 3) := sorry
theorem dX2_addLaw_4 : decode cX2_addLaw 4 = .ok (.bipush 6, 2) := sorry
theorem dX2_addLaw_6 : decode cX2_addLaw 6 = .ok (.if_icmp .lt 6, 3) := sorry
theorem dX2_addLaw_12 : decode cX2_addLaw 12 = .ok (.aload_n 0, 1) := sorry
theorem dX2_addLaw_13 : decode cX2_addLaw 13 = .ok (.getfield 41, 3) := sorry
theorem dX2_addLaw_16 : decode cX2_addLaw 16 = .ok (.aload_n 0, 1) := sorry
theorem dX2_addLaw_17 : decode cX2_addLaw 17 = .ok (.getfield 80, 3) := sorry
theorem dX2_addLaw_20 : decode cX2_addLaw 20 = .ok (.aload_n 1, 1) := sorry
theorem dX2_addLaw_21 : decode cX2_addLaw 21 = .ok (.aastore, 1) := sorry
theorem dX2_addLaw_22 : decode cX2_addLaw 22 = .ok (.aload_n 0, 1) := sorry
theorem dX2_addLaw_23 : decode cX2_addLaw 23 = .ok (.dup, 1) := sorry
theorem dX2_addLaw_24 : decode cX2_addLaw 24 = .ok (.getfield 80, 3) := sorry
theorem dX2_addLaw_27 : decode cX2_addLaw 27 = .ok (.iconst 1, 1) := sorry
theorem dX2_addLaw_28 : decode cX2_addLaw 28 = .ok (.iadd, 1) := sorry
theorem dX2_addLaw_29 : decode cX2_addLaw 29 = .ok (.putfield 80, 3) := sorry
theorem dX2_addLaw_32 : decode cX2_addLaw 32 = .ok (.aload_n 0, 1) := sorry
theorem dX2_addLaw_33 : decode cX2_addLaw 33 = .ok (.getfield 80, 3) := sorry
theorem dX2_addLaw_36 : decode cX2_addLaw 36 = .ok (.iconst 1, 1) := sorry
theorem dX2_addLaw_37 : decode cX2_addLaw 37 = .ok (.isub, 1) := sorry
theorem dX2_addLaw_38 : decode cX2_addLaw 38 = .ok (.ireturn, 1) := sorry
theorem dX2_addLaw_9 : decode cX2_addLaw 9 = .ok (.bipush (-5), 2) := sorry
theorem dX2_addLaw_11 : decode cX2_addLaw 11 = .ok (.ireturn, 1) := sorry
set_option maxHeartbeats 4000000 in
set_option maxRecDepth 100000 in
theorem k_X2_addLaw (l : Launch) (D : va_G) (cy : Nat → ClassId) (ld : Nat → Nat) (t : tk_T) (sn1 : Nat) (sr1 : Nat) (a0 : Nat) (a1 : Nat) (ht_a0 : t a0 = (3, 0, 0)) (ht_a1 : t a1 = (8, sn1, sr1)) : Met l yX2_addLaw (wl yX2_addLaw cX2_addLaw 2 (some .int)) ({ frames := 3, cells := 0, slots := 0, locals := 140 }) (tp D cy ld t [] [.ref a0, .ref a1] (fun H => True)) (ti D cy ld t [] (fun r H => (-5) ≤ r.toInt ∧ r.toInt ≤ 5) (tk_w t [(28, 0, 0), (3, 0, 0)])) 0 0 (tk_w t [(28, 0, 0), (3, 0, 0)]) := by sorry
theorem dX2_addSight_0 : decode cX2_addSight 0 = .ok (.aload_n 0, 1) := sorry
theorem dX2_addSight_1 : decode cX2_addSight 1 = .ok (.getfield 77, 3) := sorry
theorem dX2_addSight_4 : decode cX2_addSight 4 = .ok (.bipush 8, 2) := sorry
theorem dX2_addSight_6 : decode cX2_addSight 6 = .ok (.if_icmp .lt 6, 3) := sorry
theorem dX2_addSight_12 : decode cX2_addSight 12 = .ok (.aload_n 0, 1) := sorry
theorem dX2_addSight_13 : decode cX2_addSight 13 = .ok (.getfield 77, 3) := sorry
theorem dX2_addSight_16 : decode cX2_addSight 16 = .ok (.iconst 5, 1) := sorry
theorem dX2_addSight_17 : decode cX2_addSight 17 = .ok (.imul, 1) := sorry
theorem dX2_addSight_18 : decode cX2_addSight 18 = .ok (.istore 6, 2) := sorry
theorem dX2_addSight_20 : decode cX2_addSight 20 = .ok (.aload_n 0, 1) := sorry
theorem dX2_addSight_21 : decode cX2_addSight 21 = .ok (.getfield 36, 3) := sorry
theorem dX2_addSight_24 : decode cX2_addSight 24 = .ok (.iload 6, 2) := sorry
theorem dX2_addSight_26 : decode cX2_addSight 26 = .ok (.iload_n 1, 1) := sorry
theorem dX2_addSight_27 : decode cX2_addSight 27 = .ok (.iastore, 1) := sorry
theorem dX2_addSight_28 : decode cX2_addSight 28 = .ok (.aload_n 0, 1) := sorry
theorem dX2_addSight_29 : decode cX2_addSight 29 = .ok (.getfield 36, 3) := sorry
theorem dX2_addSight_32 : decode cX2_addSight 32 = .ok (.iload 6, 2) := sorry
theorem dX2_addSight_34 : decode cX2_addSight 34 = .ok (.iconst 1, 1) := sorry
theorem dX2_addSight_35 : decode cX2_addSight 35 = .ok (.iadd, 1) := sorry
theorem dX2_addSight_36 : decode cX2_addSight 36 = .ok (.iload_n 2, 1) := sorry
theorem dX2_addSight_37 : decode cX2_addSight 37 = .ok (.iastore, 1) := sorry
theorem dX2_addSight_38 : decode cX2_addSight 38 = .ok (.aload_n 0, 1) := sorry
theorem dX2_addSight_39 : decode cX2_addSight 39 = .ok (.getfield 36, 3) := sorry
theorem dX2_addSight_42 : decode cX2_addSight 42 = .ok (.iload 6, 2) := sorry
theorem dX2_addSight_44 : decode cX2_addSight 44 = .ok (.iconst 2, 1) := sorry
theorem dX2_addSight_45 : decode cX2_addSight 45 = .ok (.iadd, 1) := sorry
theorem dX2_addSight_46 : decode cX2_addSight 46 = .ok (.iload_n 3, 1) := sorry
theorem dX2_addSight_47 : decode cX2_addSight 47 = .ok (.iastore, 1) := sorry
theorem dX2_addSight_48 : decode cX2_addSight 48 = .ok (.aload_n 0, 1) := sorry
theorem dX2_addSight_49 : decode cX2_addSight 49 = .ok (.getfield 36, 3) := sorry
theorem dX2_addSight_52 : decode cX2_addSight 52 = .ok (.iload 6, 2) := sorry
theorem dX2_addSight_54 : decode cX2_addSight 54 = .ok (.iconst 3, 1) := sorry
theorem dX2_addSight_55 : decode cX2_addSight 55 = .ok (.iadd, 1) := sorry
theorem dX2_addSight_56 : decode cX2_addSight 56 = .ok (.iload 4, 2) := sorry
theorem dX2_addSight_58 : decode cX2_addSight 58 = .ok (.iastore, 1) := sorry
theorem dX2_addSight_59 : decode cX2_addSight 59 = .ok (.aload_n 0, 1) := sorry
theorem dX2_addSight_60 : decode cX2_addSight 60 = .ok (.getfield 36, 3) := sorry
theorem dX2_addSight_63 : decode cX2_addSight 63 = .ok (.iload 6, 2) := sorry
theorem dX2_addSight_65 : decode cX2_addSight 65 = .ok (.iconst 4, 1) := sorry
theorem dX2_addSight_66 : decode cX2_addSight 66 = .ok (.iadd, 1) := sorry
theorem dX2_addSight_67 : decode cX2_addSight 67 = .ok (.iload 5, 2) := sorry
theorem dX2_addSight_69 : decode cX2_addSight 69 = .ok (.iastore, 1) := sorry
theorem dX2_addSight_70 : decode cX2_addSight 70 = .ok (.aload_n 0, 1) := sorry
theorem dX2_addSight_71 : decode cX2_addSight 71 = .ok (.dup, 1) := sorry
theorem dX2_addSight_72 : decode cX2_addSight 72 = .ok (.getfield 77, 3) := sorry
theorem dX2_addSight_75 : decode cX2_addSight 75 = .ok (.iconst 1, 1) := sorry
theorem dX2_addSight_76 : decode cX2_addSight 76 = .ok (.iadd, 1) := sorry
theorem dX2_addSight_77 : decode cX2_addSight 77 = .ok (.putfield 77, 3) := sorry
theorem dX2_addSight_80 : decode cX2_addSight 80 = .ok (.aload_n 0, 1) := sorry
theorem dX2_addSight_81 : decode cX2_addSight 81 = .ok (.getfield 77, 3) := sorry
theorem dX2_addSight_84 : decode cX2_addSight 84 = .ok (.ireturn, 1) := sorry
theorem dX2_addSight_9 : decode cX2_addSight 9 = .ok (.bipush (-5), 2) := sorry
theorem dX2_addSight_11 : decode cX2_addSight 11 = .ok (.ireturn, 1) := sorry
set_option maxHeartbeats 4000000 in
set_option maxRecDepth 100000 in
theorem k_X2_addSight (l : Launch) (D : va_G) (cy : Nat → ClassId) (ld : Nat → Nat) (t : tk_T) (a0 : Nat) (p1 : Int32) (p2 : Int32) (p3 : Int32) (p4 : Int32) (p5 : Int32) (ht_a0 : t a0 = (3, 0, 0)) (hp_0 : 0 ≤ p1.toInt) (hp_1 : p1.toInt ≤ 9) (hp_2 : 0 ≤ p2.toInt) (hp_3 : p2.toInt ≤ 7) (hp_4 : 0 ≤ p3.toInt) (hp_5 : p3.toInt ≤ 11) (hp_6 : 0 ≤ p4.toInt) (hp_7 : p4.toInt ≤ 1) (hp_8 : 0 ≤ p5.toInt) (hp_9 : p5.toInt ≤ 1) : Met l yX2_addSight (wl yX2_addSight cX2_addSight 7 (some .int)) ({ frames := 3, cells := 0, slots := 0, locals := 140 }) (tp D cy ld t [] [.ref a0, .int p1, .int p2, .int p3, .int p4, .int p5] (fun H => True)) (ti D cy ld t [] (fun r H => (-5) ≤ r.toInt ∧ r.toInt ≤ 8) (tk_w t [(24, 0, 0), (3, 0, 0)])) 0 0 (tk_w t [(24, 0, 0), (3, 0, 0)]) := by sorry
end

section
theorem dX2_setHearing_0 : decode cX2_setHearing 0 = .ok (.aload_n 0, 1) := sorry
theorem dX2_setHearing_1 : decode cX2_setHearing 1 = .ok (.getfield 18, 3) := sorry
theorem dX2_setHearing_4 : decode cX2_setHearing 4 = .ok (.iload_n 1, 1) := sorry
theorem dX2_setHearing_5 : decode cX2_setHearing 5 = .ok (.iaload, 1) := sorry
theorem dX2_setHearing_6 : decode cX2_setHearing 6 = .ok (.iload_n 2, 1) := sorry
theorem dX2_setHearing_7 : decode cX2_setHearing 7 = .ok (.ishr, 1) := sorry
theorem dX2_setHearing_8 : decode cX2_setHearing 8 = .ok (.iconst 1, 1) := sorry
theorem dX2_setHearing_9 : decode cX2_setHearing 9 = .ok (.iand, 1) := sorry
theorem dX2_setHearing_10 : decode cX2_setHearing 10 = .ok (.istore 4, 2) := sorry
theorem dX2_setHearing_12 : decode cX2_setHearing 12 = .ok (.aload_n 0, 1) := sorry
theorem dX2_setHearing_13 : decode cX2_setHearing 13 = .ok (.getfield 18, 3) := sorry
theorem dX2_setHearing_16 : decode cX2_setHearing 16 = .ok (.iload_n 1, 1) := sorry
theorem dX2_setHearing_17 : decode cX2_setHearing 17 = .ok (.iload_n 3, 1) := sorry
theorem dX2_setHearing_18 : decode cX2_setHearing 18 = .ok (.iconst 1, 1) := sorry
theorem dX2_setHearing_47 : decode cX2_setHearing 47 = .ok (.iastore, 1) := sorry
theorem dX2_setHearing_48 : decode cX2_setHearing 48 = .ok (.iload 4, 2) := sorry
theorem dX2_setHearing_50 : decode cX2_setHearing 50 = .ok (.ireturn, 1) := sorry
theorem dX2_setHearing_19 : decode cX2_setHearing 19 = .ok (.if_icmp .ne 16, 3) := sorry
theorem dX2_setHearing_35 : decode cX2_setHearing 35 = .ok (.aload_n 0, 1) := sorry
theorem dX2_setHearing_36 : decode cX2_setHearing 36 = .ok (.getfield 18, 3) := sorry
theorem dX2_setHearing_39 : decode cX2_setHearing 39 = .ok (.iload_n 1, 1) := sorry
theorem dX2_setHearing_40 : decode cX2_setHearing 40 = .ok (.iaload, 1) := sorry
theorem dX2_setHearing_41 : decode cX2_setHearing 41 = .ok (.iconst 1, 1) := sorry
theorem dX2_setHearing_42 : decode cX2_setHearing 42 = .ok (.iload_n 2, 1) := sorry
theorem dX2_setHearing_43 : decode cX2_setHearing 43 = .ok (.ishl, 1) := sorry
theorem dX2_setHearing_44 : decode cX2_setHearing 44 = .ok (.iconst (-1), 1) := sorry
theorem dX2_setHearing_45 : decode cX2_setHearing 45 = .ok (.ixor, 1) := sorry
theorem dX2_setHearing_46 : decode cX2_setHearing 46 = .ok (.iand, 1) := sorry
theorem dX2_setHearing_22 : decode cX2_setHearing 22 = .ok (.aload_n 0, 1) := sorry
theorem dX2_setHearing_23 : decode cX2_setHearing 23 = .ok (.getfield 18, 3) := sorry
theorem dX2_setHearing_26 : decode cX2_setHearing 26 = .ok (.iload_n 1, 1) := sorry
theorem dX2_setHearing_27 : decode cX2_setHearing 27 = .ok (.iaload, 1) := sorry
theorem dX2_setHearing_28 : decode cX2_setHearing 28 = .ok (.iconst 1, 1) := sorry
theorem dX2_setHearing_29 : decode cX2_setHearing 29 = .ok (.iload_n 2, 1) := sorry
theorem dX2_setHearing_30 : decode cX2_setHearing 30 = .ok (.ishl, 1) := sorry
theorem dX2_setHearing_31 : decode cX2_setHearing 31 = .ok (.ior, 1) := sorry
theorem dX2_setHearing_32 : decode cX2_setHearing 32 = .ok (.goto 15, 3) := sorry
set_option maxHeartbeats 4000000 in
set_option maxRecDepth 100000 in
theorem k_X2_setHearing (l : Launch) (D : va_G) (cy : Nat → ClassId) (ld : Nat → Nat) (t : tk_T) (a0 : Nat) (p1 : Int32) (p2 : Int32) (p3 : Int32) (ht_a0 : t a0 = (3, 0, 0)) (hp_0 : 0 ≤ p1.toInt) (hp_1 : p1.toInt ≤ 7) (hp_2 : 0 ≤ p2.toInt) (hp_3 : p2.toInt ≤ 7) : Met l yX2_setHearing (wl yX2_setHearing cX2_setHearing 5 (some .int)) ({ frames := 3, cells := 0, slots := 0, locals := 140 }) (tp D cy ld t [] [.ref a0, .int p1, .int p2, .int p3] (fun H => True)) (ti D cy ld t [] (fun r H => 0 ≤ r.toInt ∧ r.toInt ≤ 1) (tk_w t [(32, 0, 0)])) 0 0 (tk_w t [(32, 0, 0)]) := by sorry
theorem dX2_termOf_0 : decode cX2_termOf 0 = .ok (.iload_n 1, 1) := sorry
theorem dX2_termOf_1 : decode cX2_termOf 1 = .ok (.tableswitch 45 0 2 #[27, 35, 40], 27) := sorry
theorem dX2_termOf_28 : decode cX2_termOf 28 = .ok (.aload_n 0, 1) := sorry
theorem dX2_termOf_29 : decode cX2_termOf 29 = .ok (.getfield 58, 3) := sorry
theorem dX2_termOf_32 : decode cX2_termOf 32 = .ok (.getfield 107, 3) := sorry
theorem dX2_termOf_35 : decode cX2_termOf 35 = .ok (.ireturn, 1) := sorry
theorem dX2_termOf_36 : decode cX2_termOf 36 = .ok (.aload_n 0, 1) := sorry
theorem dX2_termOf_37 : decode cX2_termOf 37 = .ok (.getfield 49, 3) := sorry
theorem dX2_termOf_40 : decode cX2_termOf 40 = .ok (.ireturn, 1) := sorry
theorem dX2_termOf_41 : decode cX2_termOf 41 = .ok (.aload_n 0, 1) := sorry
theorem dX2_termOf_42 : decode cX2_termOf 42 = .ok (.getfield 52, 3) := sorry
theorem dX2_termOf_45 : decode cX2_termOf 45 = .ok (.ireturn, 1) := sorry
theorem dX2_termOf_46 : decode cX2_termOf 46 = .ok (.aload_n 0, 1) := sorry
theorem dX2_termOf_47 : decode cX2_termOf 47 = .ok (.getfield 83, 3) := sorry
theorem dX2_termOf_50 : decode cX2_termOf 50 = .ok (.ireturn, 1) := sorry
set_option maxHeartbeats 4000000 in
set_option maxRecDepth 100000 in
theorem k_X2_termOf (l : Launch) (D : va_G) (cy : Nat → ClassId) (ld : Nat → Nat) (t : tk_T) (a0 : Nat) (p1 : Int32) (ht_a0 : t a0 = (3, 0, 0)) : Met l yX2_termOf (wl yX2_termOf cX2_termOf 2 (some .int)) ({ frames := 3, cells := 0, slots := 0, locals := 140 }) (tp D cy ld t [] [.ref a0, .int p1] (fun H => True)) (ti D cy ld t [] (fun r H => True) (tk_w t [])) 0 0 (tk_w t []) := by sorry
theorem dX2_setTerm_0 : decode cX2_setTerm 0 = .ok (.iload_n 1, 1) := sorry
theorem dX2_setTerm_1 : decode cX2_setTerm 1 = .ok (.tableswitch 54 0 2 #[27, 38, 46], 27) := sorry
theorem dX2_setTerm_28 : decode cX2_setTerm 28 = .ok (.aload_n 0, 1) := sorry
theorem dX2_setTerm_29 : decode cX2_setTerm 29 = .ok (.getfield 58, 3) := sorry
theorem dX2_setTerm_32 : decode cX2_setTerm 32 = .ok (.iload_n 2, 1) := sorry
theorem dX2_setTerm_33 : decode cX2_setTerm 33 = .ok (.putfield 107, 3) := sorry
theorem dX2_setTerm_36 : decode cX2_setTerm 36 = .ok (.goto 24, 3) := sorry
theorem dX2_setTerm_60 : decode cX2_setTerm 60 = .ok (.return_, 1) := sorry
theorem dX2_setTerm_39 : decode cX2_setTerm 39 = .ok (.aload_n 0, 1) := sorry
theorem dX2_setTerm_40 : decode cX2_setTerm 40 = .ok (.iload_n 2, 1) := sorry
theorem dX2_setTerm_41 : decode cX2_setTerm 41 = .ok (.putfield 49, 3) := sorry
theorem dX2_setTerm_44 : decode cX2_setTerm 44 = .ok (.goto 16, 3) := sorry
theorem dX2_setTerm_47 : decode cX2_setTerm 47 = .ok (.aload_n 0, 1) := sorry
theorem dX2_setTerm_48 : decode cX2_setTerm 48 = .ok (.iload_n 2, 1) := sorry
theorem dX2_setTerm_49 : decode cX2_setTerm 49 = .ok (.putfield 52, 3) := sorry
theorem dX2_setTerm_52 : decode cX2_setTerm 52 = .ok (.goto 8, 3) := sorry
theorem dX2_setTerm_55 : decode cX2_setTerm 55 = .ok (.aload_n 0, 1) := sorry
theorem dX2_setTerm_56 : decode cX2_setTerm 56 = .ok (.iload_n 2, 1) := sorry
theorem dX2_setTerm_57 : decode cX2_setTerm 57 = .ok (.putfield 83, 3) := sorry
set_option maxHeartbeats 4000000 in
set_option maxRecDepth 100000 in
theorem k_X2_setTerm (l : Launch) (D : va_G) (cy : Nat → ClassId) (ld : Nat → Nat) (t : tk_T) (a0 : Nat) (p1 : Int32) (p2 : Int32) (ht_a0 : t a0 = (3, 0, 0)) : Met l yX2_setTerm (wl yX2_setTerm cX2_setTerm 3 none) ({ frames := 3, cells := 0, slots := 0, locals := 140 }) (tp D cy ld t [] [.ref a0, .int p1, .int p2] (fun H => True)) (tv D cy ld t [] (fun H => True) (tk_w t [(10, 0, 0), (3, 0, 0)])) 0 0 (tk_w t [(10, 0, 0), (3, 0, 0)]) := by sorry
theorem dX2_asleepWith_0 : decode cX2_asleepWith 0 = .ok (.iconst 1, 1) := sorry
theorem dX2_asleepWith_1 : decode cX2_asleepWith 1 = .ok (.iload_n 1, 1) := sorry
theorem dX2_asleepWith_2 : decode cX2_asleepWith 2 = .ok (.ishl, 1) := sorry
theorem dX2_asleepWith_3 : decode cX2_asleepWith 3 = .ok (.istore_n 2, 1) := sorry
theorem dX2_asleepWith_4 : decode cX2_asleepWith 4 = .ok (.iconst 0, 1) := sorry
theorem dX2_asleepWith_5 : decode cX2_asleepWith 5 = .ok (.istore_n 3, 1) := sorry
theorem dX2_asleepWith_6 : decode cX2_asleepWith 6 = .ok (.iload_n 3, 1) := sorry
theorem dX2_asleepWith_7 : decode cX2_asleepWith 7 = .ok (.aload_n 0, 1) := sorry
theorem dX2_asleepWith_8 : decode cX2_asleepWith 8 = .ok (.getfield 62, 3) := sorry
theorem dX2_asleepWith_11 : decode cX2_asleepWith 11 = .ok (.if_icmp .ge 23, 3) := sorry
theorem dX2_asleepWith_34 : decode cX2_asleepWith 34 = .ok (.iload_n 2, 1) := sorry
theorem dX2_asleepWith_35 : decode cX2_asleepWith 35 = .ok (.ireturn, 1) := sorry
theorem dX2_asleepWith_14 : decode cX2_asleepWith 14 = .ok (.iload_n 2, 1) := sorry
theorem dX2_asleepWith_15 : decode cX2_asleepWith 15 = .ok (.aload_n 0, 1) := sorry
theorem dX2_asleepWith_16 : decode cX2_asleepWith 16 = .ok (.getfield 58, 3) := sorry
theorem dX2_asleepWith_19 : decode cX2_asleepWith 19 = .ok (.getfield 101, 3) := sorry
theorem dX2_asleepWith_22 : decode cX2_asleepWith 22 = .ok (.iload_n 3, 1) := sorry
theorem dX2_asleepWith_23 : decode cX2_asleepWith 23 = .ok (.iaload, 1) := sorry
theorem dX2_asleepWith_24 : decode cX2_asleepWith 24 = .ok (.iload_n 3, 1) := sorry
theorem dX2_asleepWith_25 : decode cX2_asleepWith 25 = .ok (.ishl, 1) := sorry
theorem dX2_asleepWith_26 : decode cX2_asleepWith 26 = .ok (.ior, 1) := sorry
theorem dX2_asleepWith_27 : decode cX2_asleepWith 27 = .ok (.istore_n 2, 1) := sorry
theorem dX2_asleepWith_28 : decode cX2_asleepWith 28 = .ok (.iinc 3 1, 3) := sorry
theorem dX2_asleepWith_31 : decode cX2_asleepWith 31 = .ok (.goto (-25), 3) := sorry
set_option maxHeartbeats 4000000 in
set_option maxRecDepth 100000 in
theorem k_X2_asleepWith (l : Launch) (D : va_G) (cy : Nat → ClassId) (ld : Nat → Nat) (t : tk_T) (a0 : Nat) (p1 : Int32) (ht_a0 : t a0 = (3, 0, 0)) : Met l yX2_asleepWith (wl yX2_asleepWith cX2_asleepWith 4 (some .int)) ({ frames := 3, cells := 0, slots := 0, locals := 140 }) (tp D cy ld t [] [.ref a0, .int p1] (fun H => True)) (ti D cy ld t [] (fun r H => True) (tk_w t [])) 0 0 (tk_w t []) := by sorry
theorem dX2_oneRoundMore_0 : decode cX2_oneRoundMore 0 = .ok (.iload_n 1, 1) := sorry
theorem dX2_oneRoundMore_1 : decode cX2_oneRoundMore 1 = .ok (.iload_n 2, 1) := sorry
theorem dX2_oneRoundMore_2 : decode cX2_oneRoundMore 2 = .ok (.iconst (-1), 1) := sorry
theorem dX2_oneRoundMore_3 : decode cX2_oneRoundMore 3 = .ok (.ixor, 1) := sorry
theorem dX2_oneRoundMore_4 : decode cX2_oneRoundMore 4 = .ok (.iand, 1) := sorry
theorem dX2_oneRoundMore_5 : decode cX2_oneRoundMore 5 = .ok (.istore_n 3, 1) := sorry
theorem dX2_oneRoundMore_6 : decode cX2_oneRoundMore 6 = .ok (.iload_n 1, 1) := sorry
theorem dX2_oneRoundMore_7 : decode cX2_oneRoundMore 7 = .ok (.istore 4, 2) := sorry
theorem dX2_oneRoundMore_9 : decode cX2_oneRoundMore 9 = .ok (.iconst 0, 1) := sorry
theorem dX2_oneRoundMore_10 : decode cX2_oneRoundMore 10 = .ok (.istore 5, 2) := sorry
theorem dX2_oneRoundMore_12 : decode cX2_oneRoundMore 12 = .ok (.iload 5, 2) := sorry
theorem dX2_oneRoundMore_14 : decode cX2_oneRoundMore 14 = .ok (.aload_n 0, 1) := sorry
theorem dX2_oneRoundMore_15 : decode cX2_oneRoundMore 15 = .ok (.getfield 62, 3) := sorry
theorem dX2_oneRoundMore_18 : decode cX2_oneRoundMore 18 = .ok (.if_icmp .ge 69, 3) := sorry
theorem dX2_oneRoundMore_87 : decode cX2_oneRoundMore 87 = .ok (.iload 4, 2) := sorry
theorem dX2_oneRoundMore_89 : decode cX2_oneRoundMore 89 = .ok (.ireturn, 1) := sorry
theorem dX2_oneRoundMore_21 : decode cX2_oneRoundMore 21 = .ok (.iload_n 2, 1) := sorry
theorem dX2_oneRoundMore_22 : decode cX2_oneRoundMore 22 = .ok (.iload 5, 2) := sorry
theorem dX2_oneRoundMore_24 : decode cX2_oneRoundMore 24 = .ok (.ishr, 1) := sorry
theorem dX2_oneRoundMore_25 : decode cX2_oneRoundMore 25 = .ok (.iconst 1, 1) := sorry
theorem dX2_oneRoundMore_26 : decode cX2_oneRoundMore 26 = .ok (.iand, 1) := sorry
theorem dX2_oneRoundMore_27 : decode cX2_oneRoundMore 27 = .ok (.iconst 1, 1) := sorry
theorem dX2_oneRoundMore_36 : decode cX2_oneRoundMore 36 = .ok (.istore 6, 2) := sorry
theorem dX2_oneRoundMore_38 : decode cX2_oneRoundMore 38 = .ok (.iload 6, 2) := sorry
theorem dX2_oneRoundMore_81 : decode cX2_oneRoundMore 81 = .ok (.iinc 5 1, 3) := sorry
theorem dX2_oneRoundMore_84 : decode cX2_oneRoundMore 84 = .ok (.goto (-72), 3) := sorry
theorem dX2_oneRoundMore_40 : decode cX2_oneRoundMore 40 = .ok (.ifCond .ne 41, 3) := sorry
theorem dX2_oneRoundMore_43 : decode cX2_oneRoundMore 43 = .ok (.aload_n 0, 1) := sorry
theorem dX2_oneRoundMore_44 : decode cX2_oneRoundMore 44 = .ok (.getfield 58, 3) := sorry
theorem dX2_oneRoundMore_47 : decode cX2_oneRoundMore 47 = .ok (.getfield 98, 3) := sorry
theorem dX2_oneRoundMore_50 : decode cX2_oneRoundMore 50 = .ok (.iload 5, 2) := sorry
theorem dX2_oneRoundMore_52 : decode cX2_oneRoundMore 52 = .ok (.iaload, 1) := sorry
theorem dX2_oneRoundMore_53 : decode cX2_oneRoundMore 53 = .ok (.aload_n 0, 1) := sorry
theorem dX2_oneRoundMore_54 : decode cX2_oneRoundMore 54 = .ok (.getfield 52, 3) := sorry
theorem dX2_oneRoundMore_57 : decode cX2_oneRoundMore 57 = .ok (.if_icmp .gt 24, 3) := sorry
theorem dX2_oneRoundMore_60 : decode cX2_oneRoundMore 60 = .ok (.aload_n 0, 1) := sorry
theorem dX2_oneRoundMore_61 : decode cX2_oneRoundMore 61 = .ok (.getfield 18, 3) := sorry
theorem dX2_oneRoundMore_64 : decode cX2_oneRoundMore 64 = .ok (.iload 5, 2) := sorry
theorem dX2_oneRoundMore_66 : decode cX2_oneRoundMore 66 = .ok (.iaload, 1) := sorry
theorem dX2_oneRoundMore_67 : decode cX2_oneRoundMore 67 = .ok (.iload_n 3, 1) := sorry
theorem dX2_oneRoundMore_68 : decode cX2_oneRoundMore 68 = .ok (.iand, 1) := sorry
theorem dX2_oneRoundMore_69 : decode cX2_oneRoundMore 69 = .ok (.ifCond .eq 12, 3) := sorry
theorem dX2_oneRoundMore_72 : decode cX2_oneRoundMore 72 = .ok (.iload 4, 2) := sorry
theorem dX2_oneRoundMore_74 : decode cX2_oneRoundMore 74 = .ok (.iconst 1, 1) := sorry
theorem dX2_oneRoundMore_75 : decode cX2_oneRoundMore 75 = .ok (.iload 5, 2) := sorry
theorem dX2_oneRoundMore_77 : decode cX2_oneRoundMore 77 = .ok (.ishl, 1) := sorry
theorem dX2_oneRoundMore_78 : decode cX2_oneRoundMore 78 = .ok (.ior, 1) := sorry
theorem dX2_oneRoundMore_79 : decode cX2_oneRoundMore 79 = .ok (.istore 4, 2) := sorry
theorem dX2_oneRoundMore_28 : decode cX2_oneRoundMore 28 = .ok (.if_icmp .ne 7, 3) := sorry
theorem dX2_oneRoundMore_35 : decode cX2_oneRoundMore 35 = .ok (.iconst 0, 1) := sorry
theorem dX2_oneRoundMore_31 : decode cX2_oneRoundMore 31 = .ok (.iconst 1, 1) := sorry
theorem dX2_oneRoundMore_32 : decode cX2_oneRoundMore 32 = .ok (.goto 4, 3) := sorry
set_option maxHeartbeats 4000000 in
set_option maxRecDepth 100000 in
theorem k_X2_oneRoundMore (l : Launch) (D : va_G) (cy : Nat → ClassId) (ld : Nat → Nat) (t : tk_T) (a0 : Nat) (p1 : Int32) (p2 : Int32) (ht_a0 : t a0 = (3, 0, 0)) : Met l yX2_oneRoundMore (wl yX2_oneRoundMore cX2_oneRoundMore 7 (some .int)) ({ frames := 3, cells := 0, slots := 0, locals := 140 }) (tp D cy ld t [] [.ref a0, .int p1, .int p2] (fun H => True)) (ti D cy ld t [] (fun r H => True) (tk_w t [])) 0 0 (tk_w t []) := by sorry
theorem dX2_asleepBehind_0 : decode cX2_asleepBehind 0 = .ok (.aload_n 0, 1) := sorry
theorem dX2_asleepBehind_1 : decode cX2_asleepBehind 1 = .ok (.iload_n 1, 1) := sorry
theorem dX2_asleepBehind_2 : decode cX2_asleepBehind 2 = .ok (.invokevirtual 110, 3) := sorry
theorem dX2_asleepBehind_5 : decode cX2_asleepBehind 5 = .ok (.istore_n 3, 1) := sorry
theorem dX2_asleepBehind_6 : decode cX2_asleepBehind 6 = .ok (.iconst 0, 1) := sorry
theorem dX2_asleepBehind_7 : decode cX2_asleepBehind 7 = .ok (.istore 4, 2) := sorry
theorem dX2_asleepBehind_9 : decode cX2_asleepBehind 9 = .ok (.iload 4, 2) := sorry
theorem dX2_asleepBehind_11 : decode cX2_asleepBehind 11 = .ok (.bipush 8, 2) := sorry
theorem dX2_asleepBehind_42 : decode cX2_asleepBehind 42 = .ok (.iload_n 3, 1) := sorry
theorem dX2_asleepBehind_43 : decode cX2_asleepBehind 43 = .ok (.ireturn, 1) := sorry
theorem dX2_asleepBehind_13 : decode cX2_asleepBehind 13 = .ok (.if_icmp .ge 29, 3) := sorry
theorem dX2_asleepBehind_16 : decode cX2_asleepBehind 16 = .ok (.aload_n 0, 1) := sorry
theorem dX2_asleepBehind_17 : decode cX2_asleepBehind 17 = .ok (.iload_n 3, 1) := sorry
theorem dX2_asleepBehind_18 : decode cX2_asleepBehind 18 = .ok (.iload_n 2, 1) := sorry
theorem dX2_asleepBehind_19 : decode cX2_asleepBehind 19 = .ok (.invokevirtual 114, 3) := sorry
theorem dX2_asleepBehind_22 : decode cX2_asleepBehind 22 = .ok (.istore 5, 2) := sorry
theorem dX2_asleepBehind_24 : decode cX2_asleepBehind 24 = .ok (.iload 5, 2) := sorry
theorem dX2_asleepBehind_26 : decode cX2_asleepBehind 26 = .ok (.iload_n 3, 1) := sorry
theorem dX2_asleepBehind_27 : decode cX2_asleepBehind 27 = .ok (.if_icmp .ne 6, 3) := sorry
theorem dX2_asleepBehind_33 : decode cX2_asleepBehind 33 = .ok (.iload 5, 2) := sorry
theorem dX2_asleepBehind_35 : decode cX2_asleepBehind 35 = .ok (.istore_n 3, 1) := sorry
theorem dX2_asleepBehind_36 : decode cX2_asleepBehind 36 = .ok (.iinc 4 1, 3) := sorry
theorem dX2_asleepBehind_39 : decode cX2_asleepBehind 39 = .ok (.goto (-30), 3) := sorry
theorem dX2_asleepBehind_30 : decode cX2_asleepBehind 30 = .ok (.goto 12, 3) := sorry
set_option maxHeartbeats 4000000 in
set_option maxRecDepth 100000 in
theorem k_X2_asleepBehind (l : Launch) (D : va_G) (cy : Nat → ClassId) (ld : Nat → Nat) (t : tk_T) (a0 : Nat) (p1 : Int32) (p2 : Int32) (ht_a0 : t a0 = (3, 0, 0)) : Met l yX2_asleepBehind (wl yX2_asleepBehind cX2_asleepBehind 6 (some .int)) ({ frames := 4, cells := 0, slots := 0, locals := 210 }) (tp D cy ld t [] [.ref a0, .int p1, .int p2] (fun H => True)) (ti D cy ld t [] (fun r H => True) (tk_w t [])) 0 0 (tk_w t []) := by sorry
theorem dX2_roundsBehind_0 : decode cX2_roundsBehind 0 = .ok (.aload_n 0, 1) := sorry
theorem dX2_roundsBehind_1 : decode cX2_roundsBehind 1 = .ok (.iload_n 1, 1) := sorry
theorem dX2_roundsBehind_2 : decode cX2_roundsBehind 2 = .ok (.invokevirtual 110, 3) := sorry
theorem dX2_roundsBehind_5 : decode cX2_roundsBehind 5 = .ok (.istore_n 2, 1) := sorry
theorem dX2_roundsBehind_6 : decode cX2_roundsBehind 6 = .ok (.iconst 0, 1) := sorry
theorem dX2_roundsBehind_7 : decode cX2_roundsBehind 7 = .ok (.istore_n 3, 1) := sorry
theorem dX2_roundsBehind_8 : decode cX2_roundsBehind 8 = .ok (.iload_n 3, 1) := sorry
theorem dX2_roundsBehind_9 : decode cX2_roundsBehind 9 = .ok (.bipush 8, 2) := sorry
theorem dX2_roundsBehind_40 : decode cX2_roundsBehind 40 = .ok (.iload_n 3, 1) := sorry
theorem dX2_roundsBehind_41 : decode cX2_roundsBehind 41 = .ok (.ireturn, 1) := sorry
theorem dX2_roundsBehind_11 : decode cX2_roundsBehind 11 = .ok (.if_icmp .ge 29, 3) := sorry
theorem dX2_roundsBehind_14 : decode cX2_roundsBehind 14 = .ok (.aload_n 0, 1) := sorry
theorem dX2_roundsBehind_15 : decode cX2_roundsBehind 15 = .ok (.iload_n 2, 1) := sorry
theorem dX2_roundsBehind_16 : decode cX2_roundsBehind 16 = .ok (.iconst 0, 1) := sorry
theorem dX2_roundsBehind_17 : decode cX2_roundsBehind 17 = .ok (.invokevirtual 114, 3) := sorry
theorem dX2_roundsBehind_20 : decode cX2_roundsBehind 20 = .ok (.istore 4, 2) := sorry
theorem dX2_roundsBehind_22 : decode cX2_roundsBehind 22 = .ok (.iload 4, 2) := sorry
theorem dX2_roundsBehind_24 : decode cX2_roundsBehind 24 = .ok (.iload_n 2, 1) := sorry
theorem dX2_roundsBehind_25 : decode cX2_roundsBehind 25 = .ok (.if_icmp .ne 6, 3) := sorry
theorem dX2_roundsBehind_31 : decode cX2_roundsBehind 31 = .ok (.iload 4, 2) := sorry
theorem dX2_roundsBehind_33 : decode cX2_roundsBehind 33 = .ok (.istore_n 2, 1) := sorry
theorem dX2_roundsBehind_34 : decode cX2_roundsBehind 34 = .ok (.iinc 3 1, 3) := sorry
theorem dX2_roundsBehind_37 : decode cX2_roundsBehind 37 = .ok (.goto (-29), 3) := sorry
theorem dX2_roundsBehind_28 : decode cX2_roundsBehind 28 = .ok (.goto 12, 3) := sorry
set_option maxHeartbeats 4000000 in
set_option maxRecDepth 100000 in
theorem k_X2_roundsBehind (l : Launch) (D : va_G) (cy : Nat → ClassId) (ld : Nat → Nat) (t : tk_T) (a0 : Nat) (p1 : Int32) (ht_a0 : t a0 = (3, 0, 0)) : Met l yX2_roundsBehind (wl yX2_roundsBehind cX2_roundsBehind 5 (some .int)) ({ frames := 4, cells := 0, slots := 0, locals := 210 }) (tp D cy ld t [] [.ref a0, .int p1] (fun H => True)) (ti D cy ld t [] (fun r H => 0 ≤ r.toInt ∧ r.toInt ≤ 8) (tk_w t [])) 0 0 (tk_w t []) := by sorry
theorem dJ6_bitCount_0f7a4_0 : decode cJ6_bitCount_0f7a4 0 = .ok (.iload_n 0, 1) := sorry
theorem dJ6_bitCount_0f7a4_1 : decode cJ6_bitCount_0f7a4 1 = .ok (.iload_n 0, 1) := sorry
theorem dJ6_bitCount_0f7a4_2 : decode cJ6_bitCount_0f7a4 2 = .ok (.iconst 1, 1) := sorry
theorem dJ6_bitCount_0f7a4_3 : decode cJ6_bitCount_0f7a4 3 = .ok (.iushr, 1) := sorry
theorem dJ6_bitCount_0f7a4_4 : decode cJ6_bitCount_0f7a4 4 = .ok (.ldc_w 265, 3) := sorry
theorem dJ6_bitCount_0f7a4_7 : decode cJ6_bitCount_0f7a4 7 = .ok (.iand, 1) := sorry
theorem dJ6_bitCount_0f7a4_8 : decode cJ6_bitCount_0f7a4 8 = .ok (.isub, 1) := sorry
theorem dJ6_bitCount_0f7a4_9 : decode cJ6_bitCount_0f7a4 9 = .ok (.istore_n 0, 1) := sorry
theorem dJ6_bitCount_0f7a4_10 : decode cJ6_bitCount_0f7a4 10 = .ok (.iload_n 0, 1) := sorry
theorem dJ6_bitCount_0f7a4_11 : decode cJ6_bitCount_0f7a4 11 = .ok (.ldc_w 266, 3) := sorry
theorem dJ6_bitCount_0f7a4_14 : decode cJ6_bitCount_0f7a4 14 = .ok (.iand, 1) := sorry
theorem dJ6_bitCount_0f7a4_15 : decode cJ6_bitCount_0f7a4 15 = .ok (.iload_n 0, 1) := sorry
theorem dJ6_bitCount_0f7a4_16 : decode cJ6_bitCount_0f7a4 16 = .ok (.iconst 2, 1) := sorry
theorem dJ6_bitCount_0f7a4_17 : decode cJ6_bitCount_0f7a4 17 = .ok (.iushr, 1) := sorry
theorem dJ6_bitCount_0f7a4_18 : decode cJ6_bitCount_0f7a4 18 = .ok (.ldc_w 266, 3) := sorry
theorem dJ6_bitCount_0f7a4_21 : decode cJ6_bitCount_0f7a4 21 = .ok (.iand, 1) := sorry
theorem dJ6_bitCount_0f7a4_22 : decode cJ6_bitCount_0f7a4 22 = .ok (.iadd, 1) := sorry
theorem dJ6_bitCount_0f7a4_23 : decode cJ6_bitCount_0f7a4 23 = .ok (.istore_n 0, 1) := sorry
theorem dJ6_bitCount_0f7a4_24 : decode cJ6_bitCount_0f7a4 24 = .ok (.iload_n 0, 1) := sorry
theorem dJ6_bitCount_0f7a4_25 : decode cJ6_bitCount_0f7a4 25 = .ok (.iload_n 0, 1) := sorry
theorem dJ6_bitCount_0f7a4_26 : decode cJ6_bitCount_0f7a4 26 = .ok (.iconst 4, 1) := sorry
theorem dJ6_bitCount_0f7a4_27 : decode cJ6_bitCount_0f7a4 27 = .ok (.iushr, 1) := sorry
theorem dJ6_bitCount_0f7a4_28 : decode cJ6_bitCount_0f7a4 28 = .ok (.iadd, 1) := sorry
theorem dJ6_bitCount_0f7a4_29 : decode cJ6_bitCount_0f7a4 29 = .ok (.ldc_w 267, 3) := sorry
theorem dJ6_bitCount_0f7a4_32 : decode cJ6_bitCount_0f7a4 32 = .ok (.iand, 1) := sorry
theorem dJ6_bitCount_0f7a4_33 : decode cJ6_bitCount_0f7a4 33 = .ok (.istore_n 0, 1) := sorry
theorem dJ6_bitCount_0f7a4_34 : decode cJ6_bitCount_0f7a4 34 = .ok (.iload_n 0, 1) := sorry
theorem dJ6_bitCount_0f7a4_35 : decode cJ6_bitCount_0f7a4 35 = .ok (.iload_n 0, 1) := sorry
theorem dJ6_bitCount_0f7a4_36 : decode cJ6_bitCount_0f7a4 36 = .ok (.bipush 8, 2) := sorry
theorem dJ6_bitCount_0f7a4_38 : decode cJ6_bitCount_0f7a4 38 = .ok (.iushr, 1) := sorry
theorem dJ6_bitCount_0f7a4_39 : decode cJ6_bitCount_0f7a4 39 = .ok (.iadd, 1) := sorry
theorem dJ6_bitCount_0f7a4_40 : decode cJ6_bitCount_0f7a4 40 = .ok (.istore_n 0, 1) := sorry
theorem dJ6_bitCount_0f7a4_41 : decode cJ6_bitCount_0f7a4 41 = .ok (.iload_n 0, 1) := sorry
theorem dJ6_bitCount_0f7a4_42 : decode cJ6_bitCount_0f7a4 42 = .ok (.iload_n 0, 1) := sorry
theorem dJ6_bitCount_0f7a4_43 : decode cJ6_bitCount_0f7a4 43 = .ok (.bipush 16, 2) := sorry
theorem dJ6_bitCount_0f7a4_45 : decode cJ6_bitCount_0f7a4 45 = .ok (.iushr, 1) := sorry
theorem dJ6_bitCount_0f7a4_46 : decode cJ6_bitCount_0f7a4 46 = .ok (.iadd, 1) := sorry
theorem dJ6_bitCount_0f7a4_47 : decode cJ6_bitCount_0f7a4 47 = .ok (.istore_n 0, 1) := sorry
theorem dJ6_bitCount_0f7a4_48 : decode cJ6_bitCount_0f7a4 48 = .ok (.iload_n 0, 1) := sorry
theorem dJ6_bitCount_0f7a4_49 : decode cJ6_bitCount_0f7a4 49 = .ok (.bipush 63, 2) := sorry
theorem dJ6_bitCount_0f7a4_51 : decode cJ6_bitCount_0f7a4 51 = .ok (.iand, 1) := sorry
theorem dJ6_bitCount_0f7a4_52 : decode cJ6_bitCount_0f7a4 52 = .ok (.ireturn, 1) := sorry
set_option maxHeartbeats 4000000 in
set_option maxRecDepth 100000 in
theorem k_J6_bitCount_0f7a4 (l : Launch) (D : va_G) (cy : Nat → ClassId) (ld : Nat → Nat) (t : tk_T) (X : List Nat) (p0 : Int32) : Met l yJ6_bitCount_0f7a4 (wl yJ6_bitCount_0f7a4 cJ6_bitCount_0f7a4 1 (some .int)) ({ frames := 3, cells := 0, slots := 0, locals := 140 }) (tp D cy ld t X [.int p0] (fun H => True)) (ti D cy ld t X (fun r H => 0 ≤ r.toInt ∧ r.toInt ≤ 64) (tk_w t [])) 0 0 (tk_w t []) := by sorry
theorem dX2_ledAway_0 : decode cX2_ledAway 0 = .ok (.iconst 1, 1) := sorry
theorem dX2_ledAway_1 : decode cX2_ledAway 1 = .ok (.iload_n 1, 1) := sorry
theorem dX2_ledAway_2 : decode cX2_ledAway 2 = .ok (.ishl, 1) := sorry
theorem dX2_ledAway_3 : decode cX2_ledAway 3 = .ok (.iconst 1, 1) := sorry
theorem dX2_ledAway_4 : decode cX2_ledAway 4 = .ok (.iload_n 2, 1) := sorry
theorem dX2_ledAway_5 : decode cX2_ledAway 5 = .ok (.ishl, 1) := sorry
theorem dX2_ledAway_6 : decode cX2_ledAway 6 = .ok (.ior, 1) := sorry
theorem dX2_ledAway_7 : decode cX2_ledAway 7 = .ok (.istore_n 3, 1) := sorry
theorem dX2_ledAway_8 : decode cX2_ledAway 8 = .ok (.iconst (-1), 1) := sorry
theorem dX2_ledAway_9 : decode cX2_ledAway 9 = .ok (.istore 4, 2) := sorry
theorem dX2_ledAway_11 : decode cX2_ledAway 11 = .ok (.iconst 0, 1) := sorry
theorem dX2_ledAway_12 : decode cX2_ledAway 12 = .ok (.istore 5, 2) := sorry
theorem dX2_ledAway_14 : decode cX2_ledAway 14 = .ok (.iload 5, 2) := sorry
theorem dX2_ledAway_16 : decode cX2_ledAway 16 = .ok (.iconst 1, 1) := sorry
theorem dX2_ledAway_17 : decode cX2_ledAway 17 = .ok (.aload_n 0, 1) := sorry
theorem dX2_ledAway_18 : decode cX2_ledAway 18 = .ok (.getfield 62, 3) := sorry
theorem dX2_ledAway_21 : decode cX2_ledAway 21 = .ok (.ishl, 1) := sorry
theorem dX2_ledAway_22 : decode cX2_ledAway 22 = .ok (.if_icmp .ge 65, 3) := sorry
theorem dX2_ledAway_87 : decode cX2_ledAway 87 = .ok (.iload 4, 2) := sorry
theorem dX2_ledAway_89 : decode cX2_ledAway 89 = .ok (.ireturn, 1) := sorry
theorem dX2_ledAway_25 : decode cX2_ledAway 25 = .ok (.iload 4, 2) := sorry
theorem dX2_ledAway_27 : decode cX2_ledAway 27 = .ok (.iconst (-1), 1) := sorry
theorem dX2_ledAway_49 : decode cX2_ledAway 49 = .ok (.istore 6, 2) := sorry
theorem dX2_ledAway_51 : decode cX2_ledAway 51 = .ok (.iload 5, 2) := sorry
theorem dX2_ledAway_53 : decode cX2_ledAway 53 = .ok (.iload_n 3, 1) := sorry
theorem dX2_ledAway_54 : decode cX2_ledAway 54 = .ok (.iand, 1) := sorry
theorem dX2_ledAway_81 : decode cX2_ledAway 81 = .ok (.iinc 5 1, 3) := sorry
theorem dX2_ledAway_84 : decode cX2_ledAway 84 = .ok (.goto (-70), 3) := sorry
theorem dX2_ledAway_55 : decode cX2_ledAway 55 = .ok (.ifCond .ne 26, 3) := sorry
theorem dX2_ledAway_58 : decode cX2_ledAway 58 = .ok (.iload 6, 2) := sorry
theorem dX2_ledAway_60 : decode cX2_ledAway 60 = .ok (.ifCond .eq 21, 3) := sorry
theorem dX2_ledAway_63 : decode cX2_ledAway 63 = .ok (.aload_n 0, 1) := sorry
theorem dX2_ledAway_64 : decode cX2_ledAway 64 = .ok (.iload_n 2, 1) := sorry
theorem dX2_ledAway_65 : decode cX2_ledAway 65 = .ok (.iload 5, 2) := sorry
theorem dX2_ledAway_67 : decode cX2_ledAway 67 = .ok (.invokevirtual 123, 3) := sorry
theorem dX2_ledAway_70 : decode cX2_ledAway 70 = .ok (.iload_n 1, 1) := sorry
theorem dX2_ledAway_71 : decode cX2_ledAway 71 = .ok (.ishr, 1) := sorry
theorem dX2_ledAway_72 : decode cX2_ledAway 72 = .ok (.iconst 1, 1) := sorry
theorem dX2_ledAway_73 : decode cX2_ledAway 73 = .ok (.iand, 1) := sorry
theorem dX2_ledAway_74 : decode cX2_ledAway 74 = .ok (.ifCond .ne 7, 3) := sorry
theorem dX2_ledAway_77 : decode cX2_ledAway 77 = .ok (.iload 5, 2) := sorry
theorem dX2_ledAway_79 : decode cX2_ledAway 79 = .ok (.istore 4, 2) := sorry
theorem dX2_ledAway_28 : decode cX2_ledAway 28 = .ok (.if_icmp .eq 16, 3) := sorry
theorem dX2_ledAway_44 : decode cX2_ledAway 44 = .ok (.iconst 1, 1) := sorry
theorem dX2_ledAway_45 : decode cX2_ledAway 45 = .ok (.goto 4, 3) := sorry
theorem dX2_ledAway_31 : decode cX2_ledAway 31 = .ok (.iload 5, 2) := sorry
theorem dX2_ledAway_33 : decode cX2_ledAway 33 = .ok (.invokestatic 118, 3) := sorry
theorem dX2_ledAway_36 : decode cX2_ledAway 36 = .ok (.iload 4, 2) := sorry
theorem dX2_ledAway_38 : decode cX2_ledAway 38 = .ok (.invokestatic 118, 3) := sorry
theorem dX2_ledAway_41 : decode cX2_ledAway 41 = .ok (.if_icmp .ge 7, 3) := sorry
theorem dX2_ledAway_48 : decode cX2_ledAway 48 = .ok (.iconst 0, 1) := sorry
set_option maxHeartbeats 4000000 in
set_option maxRecDepth 100000 in
theorem k_X2_ledAway (l : Launch) (D : va_G) (cy : Nat → ClassId) (ld : Nat → Nat) (t : tk_T) (a0 : Nat) (p1 : Int32) (p2 : Int32) (ht_a0 : t a0 = (3, 0, 0)) : Met l yX2_ledAway (wl yX2_ledAway cX2_ledAway 7 (some .int)) ({ frames := 5, cells := 0, slots := 0, locals := 280 }) (tp D cy ld t [] [.ref a0, .int p1, .int p2] (fun H => True)) (ti D cy ld t [] (fun r H => (-1) ≤ r.toInt ∧ r.toInt ≤ 1099) (tk_w t [])) 0 0 (tk_w t []) := by sorry
theorem dX3_joinMore_0 : decode cX3_joinMore 0 = .ok (.iload_n 1, 1) := sorry
theorem dX3_joinMore_1 : decode cX3_joinMore 1 = .ok (.ifCond .le 35, 3) := sorry
theorem dX3_joinMore_4 : decode cX3_joinMore 4 = .ok (.iload_n 3, 1) := sorry
theorem dX3_joinMore_5 : decode cX3_joinMore 5 = .ok (.aload_n 0, 1) := sorry
theorem dX3_joinMore_6 : decode cX3_joinMore 6 = .ok (.getfield 26, 3) := sorry
theorem dX3_joinMore_36 : decode cX3_joinMore 36 = .ok (.iload_n 1, 1) := sorry
theorem dX3_joinMore_37 : decode cX3_joinMore 37 = .ok (.iconst 4, 1) := sorry
theorem dX3_joinMore_38 : decode cX3_joinMore 38 = .ok (.if_icmp .lt 4, 3) := sorry
theorem dX3_joinMore_41 : decode cX3_joinMore 41 = .ok (.return_, 1) := sorry
theorem dX3_joinMore_9 : decode cX3_joinMore 9 = .ok (.if_icmp .le 27, 3) := sorry
theorem dX3_joinMore_12 : decode cX3_joinMore 12 = .ok (.aload_n 0, 1) := sorry
theorem dX3_joinMore_13 : decode cX3_joinMore 13 = .ok (.iload_n 3, 1) := sorry
theorem dX3_joinMore_14 : decode cX3_joinMore 14 = .ok (.putfield 26, 3) := sorry
theorem dX3_joinMore_17 : decode cX3_joinMore 17 = .ok (.aload_n 0, 1) := sorry
theorem dX3_joinMore_18 : decode cX3_joinMore 18 = .ok (.iload_n 1, 1) := sorry
theorem dX3_joinMore_19 : decode cX3_joinMore 19 = .ok (.putfield 22, 3) := sorry
theorem dX3_joinMore_22 : decode cX3_joinMore 22 = .ok (.aload_n 0, 1) := sorry
theorem dX3_joinMore_23 : decode cX3_joinMore 23 = .ok (.getfield 11, 3) := sorry
theorem dX3_joinMore_26 : decode cX3_joinMore 26 = .ok (.iconst 0, 1) := sorry
theorem dX3_joinMore_27 : decode cX3_joinMore 27 = .ok (.aload_n 0, 1) := sorry
theorem dX3_joinMore_28 : decode cX3_joinMore 28 = .ok (.getfield 15, 3) := sorry
theorem dX3_joinMore_31 : decode cX3_joinMore 31 = .ok (.iconst 0, 1) := sorry
theorem dX3_joinMore_32 : decode cX3_joinMore 32 = .ok (.iconst 4, 1) := sorry
theorem dX3_joinMore_33 : decode cX3_joinMore 33 = .ok (.invokestatic 37, 3) := sorry
set_option maxHeartbeats 4000000 in
set_option maxRecDepth 100000 in
theorem k_X3_joinMore_4 (l : Launch) (D : va_G) (cy : Nat → ClassId) (ld : Nat → Nat) (t : tk_T) (a0 : Nat) (p2 : Int32) (p3 : Int32) (p4 : Int32) (ht_a0 : t a0 = (4, 0, 0)) : Met l yX3_joinMore (wl yX3_joinMore cX3_joinMore 8 none) ({ frames := 4, cells := 0, slots := 0, locals := 210 }) (tp D cy ld t [] [.ref a0, .int 4, .int p2, .int p3, .int p4] (fun H => True)) (tv D cy ld t [] (fun H => True) (tk_w t [(4, 0, 0), (20, 0, 0)])) 0 0 (tk_w t [(4, 0, 0), (20, 0, 0)]) := by sorry
theorem dX3_joinMore_42 : decode cX3_joinMore 42 = .ok (.iconst 0, 1) := sorry
theorem dX3_joinMore_43 : decode cX3_joinMore 43 = .ok (.istore 5, 2) := sorry
theorem dX3_joinMore_45 : decode cX3_joinMore 45 = .ok (.iload 5, 2) := sorry
theorem dX3_joinMore_47 : decode cX3_joinMore 47 = .ok (.aload_n 0, 1) := sorry
theorem dX3_joinMore_48 : decode cX3_joinMore 48 = .ok (.getfield 18, 3) := sorry
theorem dX3_joinMore_51 : decode cX3_joinMore 51 = .ok (.getfield 43, 3) := sorry
theorem dX3_joinMore_54 : decode cX3_joinMore 54 = .ok (.if_icmp .ge 134, 3) := sorry
theorem dX3_joinMore_188 : decode cX3_joinMore 188 = .ok (.return_, 1) := sorry
theorem dX3_joinMore_57 : decode cX3_joinMore 57 = .ok (.iload_n 2, 1) := sorry
theorem dX3_joinMore_58 : decode cX3_joinMore 58 = .ok (.iload 5, 2) := sorry
theorem dX3_joinMore_60 : decode cX3_joinMore 60 = .ok (.ishr, 1) := sorry
theorem dX3_joinMore_61 : decode cX3_joinMore 61 = .ok (.iconst 1, 1) := sorry
theorem dX3_joinMore_62 : decode cX3_joinMore 62 = .ok (.iand, 1) := sorry
theorem dX3_joinMore_182 : decode cX3_joinMore 182 = .ok (.iinc 5 1, 3) := sorry
theorem dX3_joinMore_185 : decode cX3_joinMore 185 = .ok (.goto (-140), 3) := sorry
theorem dX3_joinMore_63 : decode cX3_joinMore 63 = .ok (.ifCond .ne 119, 3) := sorry
theorem dX3_joinMore_66 : decode cX3_joinMore 66 = .ok (.aload_n 0, 1) := sorry
theorem dX3_joinMore_67 : decode cX3_joinMore 67 = .ok (.getfield 18, 3) := sorry
theorem dX3_joinMore_70 : decode cX3_joinMore 70 = .ok (.getfield 48, 3) := sorry
theorem dX3_joinMore_73 : decode cX3_joinMore 73 = .ok (.iload 5, 2) := sorry
theorem dX3_joinMore_75 : decode cX3_joinMore 75 = .ok (.iaload, 1) := sorry
theorem dX3_joinMore_76 : decode cX3_joinMore 76 = .ok (.iload 4, 2) := sorry
theorem dX3_joinMore_78 : decode cX3_joinMore 78 = .ok (.if_icmp .gt 104, 3) := sorry
theorem dX3_joinMore_81 : decode cX3_joinMore 81 = .ok (.iload_n 1, 1) := sorry
theorem dX3_joinMore_82 : decode cX3_joinMore 82 = .ok (.ifCond .le 36, 3) := sorry
theorem dX3_joinMore_85 : decode cX3_joinMore 85 = .ok (.aload_n 0, 1) := sorry
theorem dX3_joinMore_86 : decode cX3_joinMore 86 = .ok (.getfield 18, 3) := sorry
theorem dX3_joinMore_89 : decode cX3_joinMore 89 = .ok (.getfield 51, 3) := sorry
theorem dX3_joinMore_92 : decode cX3_joinMore 92 = .ok (.aload_n 0, 1) := sorry
theorem dX3_joinMore_93 : decode cX3_joinMore 93 = .ok (.getfield 11, 3) := sorry
theorem dX3_joinMore_96 : decode cX3_joinMore 96 = .ok (.iload_n 1, 1) := sorry
theorem dX3_joinMore_97 : decode cX3_joinMore 97 = .ok (.iconst 1, 1) := sorry
theorem dX3_joinMore_98 : decode cX3_joinMore 98 = .ok (.isub, 1) := sorry
theorem dX3_joinMore_99 : decode cX3_joinMore 99 = .ok (.iaload, 1) := sorry
theorem dX3_joinMore_100 : decode cX3_joinMore 100 = .ok (.iaload, 1) := sorry
theorem dX3_joinMore_101 : decode cX3_joinMore 101 = .ok (.aload_n 0, 1) := sorry
theorem dX3_joinMore_102 : decode cX3_joinMore 102 = .ok (.getfield 18, 3) := sorry
theorem dX3_joinMore_105 : decode cX3_joinMore 105 = .ok (.getfield 51, 3) := sorry
theorem dX3_joinMore_108 : decode cX3_joinMore 108 = .ok (.iload 5, 2) := sorry
theorem dX3_joinMore_110 : decode cX3_joinMore 110 = .ok (.iaload, 1) := sorry
theorem dX3_joinMore_119 : decode cX3_joinMore 119 = .ok (.istore 6, 2) := sorry
theorem dX3_joinMore_121 : decode cX3_joinMore 121 = .ok (.aload_n 0, 1) := sorry
theorem dX3_joinMore_122 : decode cX3_joinMore 122 = .ok (.getfield 11, 3) := sorry
theorem dX3_joinMore_125 : decode cX3_joinMore 125 = .ok (.iload_n 1, 1) := sorry
theorem dX3_joinMore_126 : decode cX3_joinMore 126 = .ok (.iload 5, 2) := sorry
theorem dX3_joinMore_128 : decode cX3_joinMore 128 = .ok (.iastore, 1) := sorry
theorem dX3_joinMore_129 : decode cX3_joinMore 129 = .ok (.iload_n 3, 1) := sorry
theorem dX3_joinMore_130 : decode cX3_joinMore 130 = .ok (.aload_n 0, 1) := sorry
theorem dX3_joinMore_131 : decode cX3_joinMore 131 = .ok (.getfield 18, 3) := sorry
theorem dX3_joinMore_134 : decode cX3_joinMore 134 = .ok (.getfield 54, 3) := sorry
theorem dX3_joinMore_137 : decode cX3_joinMore 137 = .ok (.iload 5, 2) := sorry
theorem dX3_joinMore_139 : decode cX3_joinMore 139 = .ok (.iaload, 1) := sorry
theorem dX3_joinMore_140 : decode cX3_joinMore 140 = .ok (.iadd, 1) := sorry
theorem dX3_joinMore_141 : decode cX3_joinMore 141 = .ok (.iload 6, 2) := sorry
theorem dX3_joinMore_151 : decode cX3_joinMore 151 = .ok (.iadd, 1) := sorry
theorem dX3_joinMore_152 : decode cX3_joinMore 152 = .ok (.istore 7, 2) := sorry
theorem dX3_joinMore_154 : decode cX3_joinMore 154 = .ok (.aload_n 0, 1) := sorry
theorem dX3_joinMore_155 : decode cX3_joinMore 155 = .ok (.iload_n 1, 1) := sorry
theorem dX3_joinMore_156 : decode cX3_joinMore 156 = .ok (.iconst 1, 1) := sorry
theorem dX3_joinMore_157 : decode cX3_joinMore 157 = .ok (.iadd, 1) := sorry
theorem dX3_joinMore_158 : decode cX3_joinMore 158 = .ok (.iload_n 2, 1) := sorry
theorem dX3_joinMore_159 : decode cX3_joinMore 159 = .ok (.iconst 1, 1) := sorry
theorem dX3_joinMore_160 : decode cX3_joinMore 160 = .ok (.iload 5, 2) := sorry
theorem dX3_joinMore_162 : decode cX3_joinMore 162 = .ok (.ishl, 1) := sorry
theorem dX3_joinMore_163 : decode cX3_joinMore 163 = .ok (.ior, 1) := sorry
theorem dX3_joinMore_164 : decode cX3_joinMore 164 = .ok (.iload 7, 2) := sorry
theorem dX3_joinMore_166 : decode cX3_joinMore 166 = .ok (.iload 4, 2) := sorry
theorem dX3_joinMore_168 : decode cX3_joinMore 168 = .ok (.aload_n 0, 1) := sorry
theorem dX3_joinMore_169 : decode cX3_joinMore 169 = .ok (.getfield 18, 3) := sorry
theorem dX3_joinMore_172 : decode cX3_joinMore 172 = .ok (.getfield 48, 3) := sorry
theorem dX3_joinMore_175 : decode cX3_joinMore 175 = .ok (.iload 5, 2) := sorry
theorem dX3_joinMore_177 : decode cX3_joinMore 177 = .ok (.iaload, 1) := sorry
theorem dX3_joinMore_178 : decode cX3_joinMore 178 = .ok (.isub, 1) := sorry
theorem dX3_joinMore_179 : decode cX3_joinMore 179 = .ok (.invokevirtual 29, 3) := sorry
theorem dX3_joinMore_143 : decode cX3_joinMore 143 = .ok (.ifCond .eq 7, 3) := sorry
theorem dX3_joinMore_150 : decode cX3_joinMore 150 = .ok (.iconst 0, 1) := sorry
theorem dX3_joinMore_146 : decode cX3_joinMore 146 = .ok (.iconst 3, 1) := sorry
theorem dX3_joinMore_147 : decode cX3_joinMore 147 = .ok (.goto 4, 3) := sorry
theorem dX3_joinMore_111 : decode cX3_joinMore 111 = .ok (.if_icmp .ne 7, 3) := sorry
theorem dX3_joinMore_118 : decode cX3_joinMore 118 = .ok (.iconst 0, 1) := sorry
theorem dX3_joinMore_114 : decode cX3_joinMore 114 = .ok (.iconst 1, 1) := sorry
theorem dX3_joinMore_115 : decode cX3_joinMore 115 = .ok (.goto 4, 3) := sorry
set_option maxHeartbeats 4000000 in
set_option maxRecDepth 100000 in
theorem k_X3_joinMore_3 (l : Launch) (D : va_G) (cy : Nat → ClassId) (ld : Nat → Nat) (t : tk_T) (a0 : Nat) (p2 : Int32) (p3 : Int32) (p4 : Int32) (ht_a0 : t a0 = (4, 0, 0)) : Met l yX3_joinMore (wl yX3_joinMore cX3_joinMore 8 none) ({ frames := 5, cells := 0, slots := 0, locals := 280 }) (tp D cy ld t [] [.ref a0, .int 3, .int p2, .int p3, .int p4] (fun H => True)) (tv D cy ld t [] (fun H => True) (tk_w t [(4, 0, 0), (20, 0, 0), (22, 0, 0)])) 0 0 (tk_w t [(4, 0, 0), (20, 0, 0), (22, 0, 0)]) := by sorry
set_option maxHeartbeats 4000000 in
set_option maxRecDepth 100000 in
theorem k_X3_joinMore_2 (l : Launch) (D : va_G) (cy : Nat → ClassId) (ld : Nat → Nat) (t : tk_T) (a0 : Nat) (p2 : Int32) (p3 : Int32) (p4 : Int32) (ht_a0 : t a0 = (4, 0, 0)) : Met l yX3_joinMore (wl yX3_joinMore cX3_joinMore 8 none) ({ frames := 6, cells := 0, slots := 0, locals := 350 }) (tp D cy ld t [] [.ref a0, .int 2, .int p2, .int p3, .int p4] (fun H => True)) (tv D cy ld t [] (fun H => True) (tk_w t [(4, 0, 0), (20, 0, 0), (22, 0, 0)])) 0 0 (tk_w t [(4, 0, 0), (20, 0, 0), (22, 0, 0)]) := by sorry
set_option maxHeartbeats 4000000 in
set_option maxRecDepth 100000 in
theorem k_X3_joinMore_1 (l : Launch) (D : va_G) (cy : Nat → ClassId) (ld : Nat → Nat) (t : tk_T) (a0 : Nat) (p2 : Int32) (p3 : Int32) (p4 : Int32) (ht_a0 : t a0 = (4, 0, 0)) : Met l yX3_joinMore (wl yX3_joinMore cX3_joinMore 8 none) ({ frames := 7, cells := 0, slots := 0, locals := 420 }) (tp D cy ld t [] [.ref a0, .int 1, .int p2, .int p3, .int p4] (fun H => True)) (tv D cy ld t [] (fun H => True) (tk_w t [(4, 0, 0), (20, 0, 0), (22, 0, 0)])) 0 0 (tk_w t [(4, 0, 0), (20, 0, 0), (22, 0, 0)]) := by sorry
end

section
set_option maxHeartbeats 4000000 in
set_option maxRecDepth 100000 in
theorem k_X3_joinMore_0 (l : Launch) (D : va_G) (cy : Nat → ClassId) (ld : Nat → Nat) (t : tk_T) (a0 : Nat) (p2 : Int32) (p3 : Int32) (p4 : Int32) (ht_a0 : t a0 = (4, 0, 0)) : Met l yX3_joinMore (wl yX3_joinMore cX3_joinMore 8 none) ({ frames := 8, cells := 0, slots := 0, locals := 490 }) (tp D cy ld t [] [.ref a0, .int 0, .int p2, .int p3, .int p4] (fun H => True)) (tv D cy ld t [] (fun H => True) (tk_w t [(22, 0, 0), (4, 0, 0), (20, 0, 0)])) 0 0 (tk_w t [(22, 0, 0), (4, 0, 0), (20, 0, 0)]) := by sorry
theorem dX3_strongest_0 : decode cX3_strongest 0 = .ok (.aload_n 0, 1) := sorry
theorem dX3_strongest_1 : decode cX3_strongest 1 = .ok (.iconst 0, 1) := sorry
theorem dX3_strongest_2 : decode cX3_strongest 2 = .ok (.putfield 22, 3) := sorry
theorem dX3_strongest_5 : decode cX3_strongest 5 = .ok (.aload_n 0, 1) := sorry
theorem dX3_strongest_6 : decode cX3_strongest 6 = .ok (.iconst (-1), 1) := sorry
theorem dX3_strongest_7 : decode cX3_strongest 7 = .ok (.putfield 26, 3) := sorry
theorem dX3_strongest_10 : decode cX3_strongest 10 = .ok (.aload_n 0, 1) := sorry
theorem dX3_strongest_11 : decode cX3_strongest 11 = .ok (.iconst 0, 1) := sorry
theorem dX3_strongest_12 : decode cX3_strongest 12 = .ok (.iconst 0, 1) := sorry
theorem dX3_strongest_13 : decode cX3_strongest 13 = .ok (.iconst 0, 1) := sorry
theorem dX3_strongest_14 : decode cX3_strongest 14 = .ok (.iload_n 1, 1) := sorry
theorem dX3_strongest_15 : decode cX3_strongest 15 = .ok (.invokevirtual 29, 3) := sorry
theorem dX3_strongest_18 : decode cX3_strongest 18 = .ok (.iload_n 2, 1) := sorry
theorem dX3_strongest_19 : decode cX3_strongest 19 = .ok (.iconst (-1), 1) := sorry
theorem dX3_strongest_20 : decode cX3_strongest 20 = .ok (.if_icmp .ne 8, 3) := sorry
theorem dX3_strongest_28 : decode cX3_strongest 28 = .ok (.iload_n 2, 1) := sorry
theorem dX3_strongest_29 : decode cX3_strongest 29 = .ok (.iconst 0, 1) := sorry
theorem dX3_strongest_30 : decode cX3_strongest 30 = .ok (.aload_n 0, 1) := sorry
theorem dX3_strongest_31 : decode cX3_strongest 31 = .ok (.getfield 22, 3) := sorry
theorem dX3_strongest_34 : decode cX3_strongest 34 = .ok (.iconst 1, 1) := sorry
theorem dX3_strongest_35 : decode cX3_strongest 35 = .ok (.isub, 1) := sorry
theorem dX3_strongest_36 : decode cX3_strongest 36 = .ok (.invokestatic 33, 3) := sorry
theorem dX3_strongest_39 : decode cX3_strongest 39 = .ok (.ifCond .eq 12, 3) := sorry
theorem dX3_strongest_51 : decode cX3_strongest 51 = .ok (.iconst (-1), 1) := sorry
theorem dX3_strongest_52 : decode cX3_strongest 52 = .ok (.ireturn, 1) := sorry
theorem dX3_strongest_42 : decode cX3_strongest 42 = .ok (.aload_n 0, 1) := sorry
theorem dX3_strongest_43 : decode cX3_strongest 43 = .ok (.getfield 15, 3) := sorry
theorem dX3_strongest_46 : decode cX3_strongest 46 = .ok (.iload_n 2, 1) := sorry
theorem dX3_strongest_47 : decode cX3_strongest 47 = .ok (.iaload, 1) := sorry
theorem dX3_strongest_48 : decode cX3_strongest 48 = .ok (.goto 4, 3) := sorry
theorem dX3_strongest_23 : decode cX3_strongest 23 = .ok (.aload_n 0, 1) := sorry
theorem dX3_strongest_24 : decode cX3_strongest 24 = .ok (.getfield 26, 3) := sorry
theorem dX3_strongest_27 : decode cX3_strongest 27 = .ok (.ireturn, 1) := sorry
set_option maxHeartbeats 4000000 in
set_option maxRecDepth 100000 in
theorem k_X3_strongest (l : Launch) (D : va_G) (cy : Nat → ClassId) (ld : Nat → Nat) (t : tk_T) (a0 : Nat) (p1 : Int32) (p2 : Int32) (ht_a0 : t a0 = (4, 0, 0)) : Met l yX3_strongest (wl yX3_strongest cX3_strongest 3 (some .int)) ({ frames := 9, cells := 0, slots := 0, locals := 560 }) (tp D cy ld t [] [.ref a0, .int p1, .int p2] (fun H => True)) (ti D cy ld t [] (fun r H => True) (tk_w t [(4, 0, 0), (22, 0, 0), (20, 0, 0)])) 0 0 (tk_w t [(4, 0, 0), (22, 0, 0), (20, 0, 0)]) := by sorry
theorem dX4_doBegin_0 : decode cX4_doBegin 0 = .ok (.aload_n 0, 1) := sorry
theorem dX4_doBegin_1 : decode cX4_doBegin 1 = .ok (.getfield 23, 3) := sorry
theorem dX4_doBegin_4 : decode cX4_doBegin 4 = .ok (.aload_n 1, 1) := sorry
theorem dX4_doBegin_5 : decode cX4_doBegin 5 = .ok (.aload_n 1, 1) := sorry
theorem dX4_doBegin_6 : decode cX4_doBegin 6 = .ok (.iload_n 2, 1) := sorry
theorem dX4_doBegin_7 : decode cX4_doBegin 7 = .ok (.iconst 0, 1) := sorry
theorem dX4_doBegin_8 : decode cX4_doBegin 8 = .ok (.invokevirtual 71, 3) := sorry
theorem dX4_doBegin_11 : decode cX4_doBegin 11 = .ok (.invokevirtual 53, 3) := sorry
theorem dX4_doBegin_14 : decode cX4_doBegin 14 = .ok (.istore_n 3, 1) := sorry
theorem dX4_doBegin_15 : decode cX4_doBegin 15 = .ok (.aload_n 0, 1) := sorry
theorem dX4_doBegin_16 : decode cX4_doBegin 16 = .ok (.getfield 23, 3) := sorry
theorem dX4_doBegin_19 : decode cX4_doBegin 19 = .ok (.getfield 75, 3) := sorry
theorem dX4_doBegin_22 : decode cX4_doBegin 22 = .ok (.istore 4, 2) := sorry
theorem dX4_doBegin_24 : decode cX4_doBegin 24 = .ok (.aload_n 0, 1) := sorry
theorem dX4_doBegin_25 : decode cX4_doBegin 25 = .ok (.getfield 23, 3) := sorry
theorem dX4_doBegin_28 : decode cX4_doBegin 28 = .ok (.aload_n 1, 1) := sorry
theorem dX4_doBegin_29 : decode cX4_doBegin 29 = .ok (.aload_n 1, 1) := sorry
theorem dX4_doBegin_30 : decode cX4_doBegin 30 = .ok (.iload_n 2, 1) := sorry
theorem dX4_doBegin_31 : decode cX4_doBegin 31 = .ok (.iconst 1, 1) := sorry
theorem dX4_doBegin_32 : decode cX4_doBegin 32 = .ok (.invokevirtual 71, 3) := sorry
theorem dX4_doBegin_35 : decode cX4_doBegin 35 = .ok (.invokevirtual 53, 3) := sorry
theorem dX4_doBegin_38 : decode cX4_doBegin 38 = .ok (.istore 5, 2) := sorry
theorem dX4_doBegin_40 : decode cX4_doBegin 40 = .ok (.iload 4, 2) := sorry
theorem dX4_doBegin_42 : decode cX4_doBegin 42 = .ok (.aload_n 0, 1) := sorry
theorem dX4_doBegin_43 : decode cX4_doBegin 43 = .ok (.getfield 23, 3) := sorry
theorem dX4_doBegin_46 : decode cX4_doBegin 46 = .ok (.getfield 75, 3) := sorry
theorem dX4_doBegin_49 : decode cX4_doBegin 49 = .ok (.ior, 1) := sorry
theorem dX4_doBegin_50 : decode cX4_doBegin 50 = .ok (.istore 4, 2) := sorry
theorem dX4_doBegin_52 : decode cX4_doBegin 52 = .ok (.aload_n 0, 1) := sorry
theorem dX4_doBegin_53 : decode cX4_doBegin 53 = .ok (.getfield 23, 3) := sorry
theorem dX4_doBegin_56 : decode cX4_doBegin 56 = .ok (.aload_n 1, 1) := sorry
theorem dX4_doBegin_57 : decode cX4_doBegin 57 = .ok (.aload_n 1, 1) := sorry
theorem dX4_doBegin_58 : decode cX4_doBegin 58 = .ok (.iload_n 2, 1) := sorry
theorem dX4_doBegin_59 : decode cX4_doBegin 59 = .ok (.iconst 2, 1) := sorry
theorem dX4_doBegin_60 : decode cX4_doBegin 60 = .ok (.invokevirtual 71, 3) := sorry
theorem dX4_doBegin_63 : decode cX4_doBegin 63 = .ok (.invokevirtual 53, 3) := sorry
theorem dX4_doBegin_66 : decode cX4_doBegin 66 = .ok (.istore 6, 2) := sorry
theorem dX4_doBegin_68 : decode cX4_doBegin 68 = .ok (.iload 4, 2) := sorry
theorem dX4_doBegin_70 : decode cX4_doBegin 70 = .ok (.aload_n 0, 1) := sorry
theorem dX4_doBegin_71 : decode cX4_doBegin 71 = .ok (.getfield 23, 3) := sorry
theorem dX4_doBegin_74 : decode cX4_doBegin 74 = .ok (.getfield 75, 3) := sorry
theorem dX4_doBegin_77 : decode cX4_doBegin 77 = .ok (.ior, 1) := sorry
theorem dX4_doBegin_78 : decode cX4_doBegin 78 = .ok (.istore 4, 2) := sorry
theorem dX4_doBegin_80 : decode cX4_doBegin 80 = .ok (.iload 4, 2) := sorry
theorem dX4_doBegin_82 : decode cX4_doBegin 82 = .ok (.ifCond .eq 8, 3) := sorry
theorem dX4_doBegin_90 : decode cX4_doBegin 90 = .ok (.aload_n 0, 1) := sorry
theorem dX4_doBegin_91 : decode cX4_doBegin 91 = .ok (.getfield 19, 3) := sorry
theorem dX4_doBegin_94 : decode cX4_doBegin 94 = .ok (.iload_n 3, 1) := sorry
theorem dX4_doBegin_95 : decode cX4_doBegin 95 = .ok (.iload 5, 2) := sorry
theorem dX4_doBegin_97 : decode cX4_doBegin 97 = .ok (.iload 6, 2) := sorry
theorem dX4_doBegin_99 : decode cX4_doBegin 99 = .ok (.invokevirtual 90, 3) := sorry
theorem dX4_doBegin_102 : decode cX4_doBegin 102 = .ok (.ireturn, 1) := sorry
theorem dX4_doBegin_85 : decode cX4_doBegin 85 = .ok (.bipush (-3), 2) := sorry
theorem dX4_doBegin_87 : decode cX4_doBegin 87 = .ok (.goto 15, 3) := sorry
set_option maxHeartbeats 4000000 in
set_option maxRecDepth 100000 in
theorem k_X4_doBegin (l : Launch) (D : va_G) (cy : Nat → ClassId) (ld : Nat → Nat) (t : tk_T) (a0 : Nat) (a1 : Nat) (p2 : Int32) (ht_a0 : t a0 = (5, 0, 0)) (ht_a1 : t a1 = (8, 512, 12)) (hp_0 : 0 ≤ p2.toInt) (hp_1 : p2.toInt ≤ 11) : Met l yX4_doBegin (wl yX4_doBegin cX4_doBegin 7 (some .int)) ({ frames := 7, cells := 0, slots := 0, locals := 420 }) (tp D cy ld t [] [.ref a0, .ref a1, .int p2] (fun H => True)) (ti D cy ld t [] (fun r H => (-3) ≤ r.toInt ∧ r.toInt ≤ 0) (tk_w t [(12, 0, 0), (20, 0, 0), (2, 0, 0), (20, 1, 1), (10, 1, 1), (10, 0, 0)])) 0 0 (tk_w t [(12, 0, 0), (20, 0, 0), (2, 0, 0), (20, 1, 1), (10, 1, 1), (10, 0, 0)]) := by sorry
theorem dX4_doDeed_0 : decode cX4_doDeed 0 = .ok (.aload_n 1, 1) := sorry
theorem dX4_doDeed_1 : decode cX4_doDeed 1 = .ok (.getfield 65, 3) := sorry
theorem dX4_doDeed_4 : decode cX4_doDeed 4 = .ok (.iload_n 2, 1) := sorry
theorem dX4_doDeed_5 : decode cX4_doDeed 5 = .ok (.iaload, 1) := sorry
theorem dX4_doDeed_6 : decode cX4_doDeed 6 = .ok (.istore_n 3, 1) := sorry
theorem dX4_doDeed_7 : decode cX4_doDeed 7 = .ok (.iload_n 3, 1) := sorry
theorem dX4_doDeed_8 : decode cX4_doDeed 8 = .ok (.ifCond .ne 10, 3) := sorry
theorem dX4_doDeed_18 : decode cX4_doDeed 18 = .ok (.iload_n 3, 1) := sorry
theorem dX4_doDeed_19 : decode cX4_doDeed 19 = .ok (.iconst 1, 1) := sorry
theorem dX4_doDeed_20 : decode cX4_doDeed 20 = .ok (.if_icmp .ne 50, 3) := sorry
theorem dX4_doDeed_70 : decode cX4_doDeed 70 = .ok (.iload_n 3, 1) := sorry
theorem dX4_doDeed_71 : decode cX4_doDeed 71 = .ok (.iconst 2, 1) := sorry
theorem dX4_doDeed_72 : decode cX4_doDeed 72 = .ok (.if_icmp .ne 13, 3) := sorry
theorem dX4_doDeed_85 : decode cX4_doDeed 85 = .ok (.aload_n 0, 1) := sorry
theorem dX4_doDeed_86 : decode cX4_doDeed 86 = .ok (.getfield 19, 3) := sorry
theorem dX4_doDeed_89 : decode cX4_doDeed 89 = .ok (.invokevirtual 87, 3) := sorry
theorem dX4_doDeed_92 : decode cX4_doDeed 92 = .ok (.ireturn, 1) := sorry
theorem dX4_doDeed_75 : decode cX4_doDeed 75 = .ok (.aload_n 0, 1) := sorry
theorem dX4_doDeed_76 : decode cX4_doDeed 76 = .ok (.getfield 19, 3) := sorry
theorem dX4_doDeed_79 : decode cX4_doDeed 79 = .ok (.invokevirtual 83, 3) := sorry
theorem dX4_doDeed_82 : decode cX4_doDeed 82 = .ok (.goto 10, 3) := sorry
theorem dX4_doDeed_23 : decode cX4_doDeed 23 = .ok (.aload_n 0, 1) := sorry
theorem dX4_doDeed_24 : decode cX4_doDeed 24 = .ok (.getfield 23, 3) := sorry
theorem dX4_doDeed_27 : decode cX4_doDeed 27 = .ok (.aload_n 1, 1) := sorry
theorem dX4_doDeed_28 : decode cX4_doDeed 28 = .ok (.aload_n 1, 1) := sorry
theorem dX4_doDeed_29 : decode cX4_doDeed 29 = .ok (.iload_n 2, 1) := sorry
theorem dX4_doDeed_30 : decode cX4_doDeed 30 = .ok (.iconst 0, 1) := sorry
theorem dX4_doDeed_31 : decode cX4_doDeed 31 = .ok (.invokevirtual 71, 3) := sorry
theorem dX4_doDeed_34 : decode cX4_doDeed 34 = .ok (.invokevirtual 53, 3) := sorry
theorem dX4_doDeed_37 : decode cX4_doDeed 37 = .ok (.istore 4, 2) := sorry
theorem dX4_doDeed_39 : decode cX4_doDeed 39 = .ok (.aload_n 0, 1) := sorry
theorem dX4_doDeed_40 : decode cX4_doDeed 40 = .ok (.getfield 23, 3) := sorry
theorem dX4_doDeed_43 : decode cX4_doDeed 43 = .ok (.getfield 75, 3) := sorry
theorem dX4_doDeed_46 : decode cX4_doDeed 46 = .ok (.ifCond .eq 6, 3) := sorry
theorem dX4_doDeed_52 : decode cX4_doDeed 52 = .ok (.aload_n 0, 1) := sorry
theorem dX4_doDeed_53 : decode cX4_doDeed 53 = .ok (.aload_n 0, 1) := sorry
theorem dX4_doDeed_54 : decode cX4_doDeed 54 = .ok (.getfield 19, 3) := sorry
theorem dX4_doDeed_57 : decode cX4_doDeed 57 = .ok (.iload 4, 2) := sorry
theorem dX4_doDeed_59 : decode cX4_doDeed 59 = .ok (.invokevirtual 79, 3) := sorry
theorem dX4_doDeed_62 : decode cX4_doDeed 62 = .ok (.putfield 35, 3) := sorry
theorem dX4_doDeed_65 : decode cX4_doDeed 65 = .ok (.aload_n 0, 1) := sorry
theorem dX4_doDeed_66 : decode cX4_doDeed 66 = .ok (.getfield 35, 3) := sorry
theorem dX4_doDeed_69 : decode cX4_doDeed 69 = .ok (.ireturn, 1) := sorry
theorem dX4_doDeed_49 : decode cX4_doDeed 49 = .ok (.bipush (-3), 2) := sorry
theorem dX4_doDeed_51 : decode cX4_doDeed 51 = .ok (.ireturn, 1) := sorry
theorem dX4_doDeed_11 : decode cX4_doDeed 11 = .ok (.aload_n 0, 1) := sorry
theorem dX4_doDeed_12 : decode cX4_doDeed 12 = .ok (.aload_n 1, 1) := sorry
theorem dX4_doDeed_13 : decode cX4_doDeed 13 = .ok (.iload_n 2, 1) := sorry
theorem dX4_doDeed_14 : decode cX4_doDeed 14 = .ok (.invokevirtual 68, 3) := sorry
theorem dX4_doDeed_17 : decode cX4_doDeed 17 = .ok (.ireturn, 1) := sorry
set_option maxHeartbeats 4000000 in
set_option maxRecDepth 100000 in
theorem k_X4_doDeed (l : Launch) (D : va_G) (cy : Nat → ClassId) (ld : Nat → Nat) (t : tk_T) (a0 : Nat) (a1 : Nat) (p2 : Int32) (ht_a0 : t a0 = (5, 0, 0)) (ht_a1 : t a1 = (8, 512, 12)) (hp_0 : 0 ≤ p2.toInt) (hp_1 : p2.toInt ≤ 11) : Met l yX4_doDeed (wl yX4_doDeed cX4_doDeed 5 (some .int)) ({ frames := 8, cells := 0, slots := 0, locals := 490 }) (tp D cy ld t [] [.ref a0, .ref a1, .int p2] (fun H => True)) (ti D cy ld t [] (fun r H => True) (tk_w t [(2, 0, 0), (20, 1, 1), (10, 1, 1), (20, 0, 0), (10, 0, 0), (12, 0, 0), (9, 0, 0), (5, 0, 0)])) 0 0 (tk_w t [(2, 0, 0), (20, 1, 1), (10, 1, 1), (20, 0, 0), (10, 0, 0), (12, 0, 0), (9, 0, 0), (5, 0, 0)]) := by sorry
theorem dX4_setWords_0 : decode cX4_setWords 0 = .ok (.aload_n 0, 1) := sorry
theorem dX4_setWords_1 : decode cX4_setWords 1 = .ok (.getfield 15, 3) := sorry
theorem dX4_setWords_4 : decode cX4_setWords 4 = .ok (.getfield 94, 3) := sorry
theorem dX4_setWords_7 : decode cX4_setWords 7 = .ok (.astore_n 1, 1) := sorry
theorem dX4_setWords_8 : decode cX4_setWords 8 = .ok (.aload_n 0, 1) := sorry
theorem dX4_setWords_9 : decode cX4_setWords 9 = .ok (.getfield 23, 3) := sorry
theorem dX4_setWords_12 : decode cX4_setWords 12 = .ok (.getfield 100, 3) := sorry
theorem dX4_setWords_15 : decode cX4_setWords 15 = .ok (.astore_n 2, 1) := sorry
theorem dX4_setWords_16 : decode cX4_setWords 16 = .ok (.aload_n 2, 1) := sorry
theorem dX4_setWords_17 : decode cX4_setWords 17 = .ok (.iconst 0, 1) := sorry
theorem dX4_setWords_18 : decode cX4_setWords 18 = .ok (.aload_n 1, 1) := sorry
theorem dX4_setWords_19 : decode cX4_setWords 19 = .ok (.getfield 103, 3) := sorry
theorem dX4_setWords_22 : decode cX4_setWords 22 = .ok (.iastore, 1) := sorry
theorem dX4_setWords_23 : decode cX4_setWords 23 = .ok (.aload_n 2, 1) := sorry
theorem dX4_setWords_24 : decode cX4_setWords 24 = .ok (.iconst 1, 1) := sorry
theorem dX4_setWords_25 : decode cX4_setWords 25 = .ok (.aload_n 1, 1) := sorry
theorem dX4_setWords_26 : decode cX4_setWords 26 = .ok (.invokevirtual 108, 3) := sorry
theorem dX4_setWords_40 : decode cX4_setWords 40 = .ok (.iastore, 1) := sorry
theorem dX4_setWords_41 : decode cX4_setWords 41 = .ok (.aload_n 2, 1) := sorry
theorem dX4_setWords_42 : decode cX4_setWords 42 = .ok (.iconst 2, 1) := sorry
theorem dX4_setWords_43 : decode cX4_setWords 43 = .ok (.aload_n 1, 1) := sorry
theorem dX4_setWords_44 : decode cX4_setWords 44 = .ok (.invokevirtual 108, 3) := sorry
theorem dX4_setWords_58 : decode cX4_setWords 58 = .ok (.iastore, 1) := sorry
theorem dX4_setWords_59 : decode cX4_setWords 59 = .ok (.aload_n 2, 1) := sorry
theorem dX4_setWords_60 : decode cX4_setWords 60 = .ok (.iconst 3, 1) := sorry
theorem dX4_setWords_61 : decode cX4_setWords 61 = .ok (.aload_n 0, 1) := sorry
theorem dX4_setWords_62 : decode cX4_setWords 62 = .ok (.getfield 32, 3) := sorry
theorem dX4_setWords_65 : decode cX4_setWords 65 = .ok (.iastore, 1) := sorry
theorem dX4_setWords_66 : decode cX4_setWords 66 = .ok (.aload_n 2, 1) := sorry
theorem dX4_setWords_67 : decode cX4_setWords 67 = .ok (.iconst 4, 1) := sorry
theorem dX4_setWords_68 : decode cX4_setWords 68 = .ok (.aload_n 0, 1) := sorry
theorem dX4_setWords_69 : decode cX4_setWords 69 = .ok (.getfield 35, 3) := sorry
theorem dX4_setWords_72 : decode cX4_setWords 72 = .ok (.iastore, 1) := sorry
theorem dX4_setWords_73 : decode cX4_setWords 73 = .ok (.iconst 0, 1) := sorry
theorem dX4_setWords_74 : decode cX4_setWords 74 = .ok (.istore_n 3, 1) := sorry
theorem dX4_setWords_75 : decode cX4_setWords 75 = .ok (.iload_n 3, 1) := sorry
theorem dX4_setWords_76 : decode cX4_setWords 76 = .ok (.bipush 8, 2) := sorry
theorem dX4_setWords_78 : decode cX4_setWords 78 = .ok (.if_icmp .ge 35, 3) := sorry
theorem dX4_setWords_113 : decode cX4_setWords 113 = .ok (.aload_n 2, 1) := sorry
theorem dX4_setWords_114 : decode cX4_setWords 114 = .ok (.bipush 13, 2) := sorry
theorem dX4_setWords_116 : decode cX4_setWords 116 = .ok (.aload_n 1, 1) := sorry
theorem dX4_setWords_117 : decode cX4_setWords 117 = .ok (.getfield 125, 3) := sorry
theorem dX4_setWords_120 : decode cX4_setWords 120 = .ok (.iconst 0, 1) := sorry
theorem dX4_setWords_121 : decode cX4_setWords 121 = .ok (.iaload, 1) := sorry
theorem dX4_setWords_122 : decode cX4_setWords 122 = .ok (.iastore, 1) := sorry
theorem dX4_setWords_123 : decode cX4_setWords 123 = .ok (.aload_n 2, 1) := sorry
theorem dX4_setWords_124 : decode cX4_setWords 124 = .ok (.bipush 14, 2) := sorry
theorem dX4_setWords_126 : decode cX4_setWords 126 = .ok (.aload_n 1, 1) := sorry
theorem dX4_setWords_127 : decode cX4_setWords 127 = .ok (.getfield 125, 3) := sorry
theorem dX4_setWords_130 : decode cX4_setWords 130 = .ok (.iconst 1, 1) := sorry
theorem dX4_setWords_131 : decode cX4_setWords 131 = .ok (.iaload, 1) := sorry
theorem dX4_setWords_132 : decode cX4_setWords 132 = .ok (.iastore, 1) := sorry
theorem dX4_setWords_133 : decode cX4_setWords 133 = .ok (.return_, 1) := sorry
theorem dX4_setWords_81 : decode cX4_setWords 81 = .ok (.aload_n 2, 1) := sorry
theorem dX4_setWords_82 : decode cX4_setWords 82 = .ok (.iconst 5, 1) := sorry
theorem dX4_setWords_83 : decode cX4_setWords 83 = .ok (.iload_n 3, 1) := sorry
theorem dX4_setWords_84 : decode cX4_setWords 84 = .ok (.iadd, 1) := sorry
theorem dX4_setWords_85 : decode cX4_setWords 85 = .ok (.aload_n 0, 1) := sorry
theorem dX4_setWords_86 : decode cX4_setWords 86 = .ok (.getfield 15, 3) := sorry
theorem dX4_setWords_89 : decode cX4_setWords 89 = .ok (.iload_n 3, 1) := sorry
theorem dX4_setWords_90 : decode cX4_setWords 90 = .ok (.invokevirtual 118, 3) := sorry
theorem dX4_setWords_106 : decode cX4_setWords 106 = .ok (.iastore, 1) := sorry
theorem dX4_setWords_107 : decode cX4_setWords 107 = .ok (.iinc 3 1, 3) := sorry
theorem dX4_setWords_110 : decode cX4_setWords 110 = .ok (.goto (-35), 3) := sorry
theorem dX4_setWords_93 : decode cX4_setWords 93 = .ok (.ifCond .eq 12, 3) := sorry
theorem dX4_setWords_105 : decode cX4_setWords 105 = .ok (.iconst (-1), 1) := sorry
theorem dX4_setWords_96 : decode cX4_setWords 96 = .ok (.aload_n 1, 1) := sorry
theorem dX4_setWords_97 : decode cX4_setWords 97 = .ok (.getfield 122, 3) := sorry
theorem dX4_setWords_100 : decode cX4_setWords 100 = .ok (.iload_n 3, 1) := sorry
theorem dX4_setWords_101 : decode cX4_setWords 101 = .ok (.iaload, 1) := sorry
theorem dX4_setWords_102 : decode cX4_setWords 102 = .ok (.goto 4, 3) := sorry
theorem dX4_setWords_47 : decode cX4_setWords 47 = .ok (.ifCond .eq 10, 3) := sorry
theorem dX4_setWords_57 : decode cX4_setWords 57 = .ok (.iconst (-1), 1) := sorry
theorem dX4_setWords_50 : decode cX4_setWords 50 = .ok (.aload_n 1, 1) := sorry
theorem dX4_setWords_51 : decode cX4_setWords 51 = .ok (.invokevirtual 115, 3) := sorry
theorem dX4_setWords_54 : decode cX4_setWords 54 = .ok (.goto 4, 3) := sorry
theorem dX4_setWords_29 : decode cX4_setWords 29 = .ok (.ifCond .eq 10, 3) := sorry
theorem dX4_setWords_39 : decode cX4_setWords 39 = .ok (.iconst (-1), 1) := sorry
theorem dX4_setWords_32 : decode cX4_setWords 32 = .ok (.aload_n 1, 1) := sorry
theorem dX4_setWords_33 : decode cX4_setWords 33 = .ok (.getfield 112, 3) := sorry
theorem dX4_setWords_36 : decode cX4_setWords 36 = .ok (.goto 4, 3) := sorry
set_option maxHeartbeats 4000000 in
set_option maxRecDepth 100000 in
theorem k_X4_setWords (l : Launch) (D : va_G) (cy : Nat → ClassId) (ld : Nat → Nat) (t : tk_T) (a0 : Nat) (ht_a0 : t a0 = (5, 0, 0)) : Met l yX4_setWords (wl yX4_setWords cX4_setWords 4 none) ({ frames := 4, cells := 0, slots := 0, locals := 210 }) (tp D cy ld t [] [.ref a0] (fun H => True)) (tv D cy ld t [] (fun H => True) (tk_w t [(20, 0, 0)])) 0 0 (tk_w t [(20, 0, 0)]) := by sorry
theorem dX4_run_0 : decode cX4_run 0 = .ok (.aload_n 0, 1) := sorry
theorem dX4_run_1 : decode cX4_run 1 = .ok (.getfield 19, 3) := sorry
theorem dX4_run_4 : decode cX4_run 4 = .ok (.invokevirtual 27, 3) := sorry
theorem dX4_run_7 : decode cX4_run 7 = .ok (.aload_n 0, 1) := sorry
theorem dX4_run_8 : decode cX4_run 8 = .ok (.iconst 0, 1) := sorry
theorem dX4_run_9 : decode cX4_run 9 = .ok (.putfield 32, 3) := sorry
theorem dX4_run_12 : decode cX4_run 12 = .ok (.aload_n 0, 1) := sorry
theorem dX4_run_13 : decode cX4_run 13 = .ok (.iconst (-1), 1) := sorry
theorem dX4_run_14 : decode cX4_run 14 = .ok (.putfield 35, 3) := sorry
theorem dX4_run_17 : decode cX4_run 17 = .ok (.iconst 0, 1) := sorry
theorem dX4_run_18 : decode cX4_run 18 = .ok (.istore_n 2, 1) := sorry
theorem dX4_run_19 : decode cX4_run 19 = .ok (.iload_n 2, 1) := sorry
theorem dX4_run_20 : decode cX4_run 20 = .ok (.aload_n 1, 1) := sorry
theorem dX4_run_21 : decode cX4_run 21 = .ok (.getfield 38, 3) := sorry
theorem dX4_run_24 : decode cX4_run 24 = .ok (.if_icmp .ge 95, 3) := sorry
theorem dX4_run_119 : decode cX4_run 119 = .ok (.aload_n 0, 1) := sorry
theorem dX4_run_120 : decode cX4_run 120 = .ok (.getfield 32, 3) := sorry
theorem dX4_run_123 : decode cX4_run 123 = .ok (.ireturn, 1) := sorry
theorem dX4_run_27 : decode cX4_run 27 = .ok (.iconst 0, 1) := sorry
theorem dX4_run_28 : decode cX4_run 28 = .ok (.istore_n 3, 1) := sorry
theorem dX4_run_29 : decode cX4_run 29 = .ok (.iload_n 3, 1) := sorry
theorem dX4_run_30 : decode cX4_run 30 = .ok (.aload_n 1, 1) := sorry
theorem dX4_run_31 : decode cX4_run 31 = .ok (.getfield 43, 3) := sorry
theorem dX4_run_34 : decode cX4_run 34 = .ok (.iload_n 2, 1) := sorry
theorem dX4_run_35 : decode cX4_run 35 = .ok (.iaload, 1) := sorry
theorem dX4_run_36 : decode cX4_run 36 = .ok (.if_icmp .ge 77, 3) := sorry
theorem dX4_run_113 : decode cX4_run 113 = .ok (.iinc 2 1, 3) := sorry
theorem dX4_run_116 : decode cX4_run 116 = .ok (.goto (-97), 3) := sorry
theorem dX4_run_39 : decode cX4_run 39 = .ok (.aload_n 0, 1) := sorry
theorem dX4_run_40 : decode cX4_run 40 = .ok (.invokevirtual 47, 3) := sorry
theorem dX4_run_43 : decode cX4_run 43 = .ok (.aload_n 1, 1) := sorry
theorem dX4_run_44 : decode cX4_run 44 = .ok (.getfield 50, 3) := sorry
theorem dX4_run_47 : decode cX4_run 47 = .ok (.iload_n 2, 1) := sorry
theorem dX4_run_48 : decode cX4_run 48 = .ok (.iaload, 1) := sorry
theorem dX4_run_49 : decode cX4_run 49 = .ok (.istore 4, 2) := sorry
theorem dX4_run_51 : decode cX4_run 51 = .ok (.iload 4, 2) := sorry
theorem dX4_run_53 : decode cX4_run 53 = .ok (.iconst (-1), 1) := sorry
theorem dX4_run_54 : decode cX4_run 54 = .ok (.if_icmp .eq 19, 3) := sorry
theorem dX4_run_73 : decode cX4_run 73 = .ok (.aload_n 0, 1) := sorry
theorem dX4_run_74 : decode cX4_run 74 = .ok (.aload_n 1, 1) := sorry
theorem dX4_run_75 : decode cX4_run 75 = .ok (.iload_n 2, 1) := sorry
theorem dX4_run_76 : decode cX4_run 76 = .ok (.invokevirtual 59, 3) := sorry
theorem dX4_run_79 : decode cX4_run 79 = .ok (.ifCond .ge 18, 3) := sorry
theorem dX4_run_97 : decode cX4_run 97 = .ok (.aload_n 0, 1) := sorry
theorem dX4_run_98 : decode cX4_run 98 = .ok (.dup, 1) := sorry
theorem dX4_run_99 : decode cX4_run 99 = .ok (.getfield 32, 3) := sorry
theorem dX4_run_102 : decode cX4_run 102 = .ok (.iconst 1, 1) := sorry
theorem dX4_run_103 : decode cX4_run 103 = .ok (.iadd, 1) := sorry
theorem dX4_run_104 : decode cX4_run 104 = .ok (.putfield 32, 3) := sorry
theorem dX4_run_107 : decode cX4_run 107 = .ok (.iinc 3 1, 3) := sorry
theorem dX4_run_110 : decode cX4_run 110 = .ok (.goto (-81), 3) := sorry
theorem dX4_run_82 : decode cX4_run 82 = .ok (.aload_n 0, 1) := sorry
theorem dX4_run_83 : decode cX4_run 83 = .ok (.iload_n 2, 1) := sorry
theorem dX4_run_84 : decode cX4_run 84 = .ok (.putfield 11, 3) := sorry
theorem dX4_run_87 : decode cX4_run 87 = .ok (.aload_n 0, 1) := sorry
theorem dX4_run_88 : decode cX4_run 88 = .ok (.getfield 19, 3) := sorry
theorem dX4_run_91 : decode cX4_run 91 = .ok (.invokevirtual 62, 3) := sorry
theorem dX4_run_94 : decode cX4_run 94 = .ok (.bipush (-3), 2) := sorry
theorem dX4_run_96 : decode cX4_run 96 = .ok (.ireturn, 1) := sorry
theorem dX4_run_57 : decode cX4_run 57 = .ok (.aload_n 0, 1) := sorry
theorem dX4_run_58 : decode cX4_run 58 = .ok (.getfield 23, 3) := sorry
theorem dX4_run_61 : decode cX4_run 61 = .ok (.aload_n 1, 1) := sorry
theorem dX4_run_62 : decode cX4_run 62 = .ok (.iload 4, 2) := sorry
theorem dX4_run_64 : decode cX4_run 64 = .ok (.invokevirtual 53, 3) := sorry
theorem dX4_run_67 : decode cX4_run 67 = .ok (.ifCond .ne 6, 3) := sorry
theorem dX4_run_70 : decode cX4_run 70 = .ok (.goto 37, 3) := sorry
set_option maxHeartbeats 4000000 in
set_option maxRecDepth 100000 in
theorem k_X4_run (l : Launch) (D : va_G) (cy : Nat → ClassId) (ld : Nat → Nat) (t : tk_T) (a0 : Nat) (a1 : Nat) (ht_a0 : t a0 = (5, 0, 0)) (ht_a1 : t a1 = (8, 512, 12)) : Met l yX4_run (wl yX4_run cX4_run 5 (some .int)) ({ frames := 9, cells := 0, slots := 0, locals := 560 }) (tp D cy ld t [] [.ref a0, .ref a1] (fun H => True)) (ti D cy ld t [] (fun r H => True) (tk_w t [(20, 2, 2), (10, 2, 2), (2, 0, 0), (20, 3, 3), (10, 3, 3), (20, 0, 0), (5, 0, 0), (20, 1, 1), (10, 1, 1), (10, 0, 0), (12, 0, 0), (9, 0, 0)])) 0 0 (tk_w t [(20, 2, 2), (10, 2, 2), (2, 0, 0), (20, 3, 3), (10, 3, 3), (20, 0, 0), (5, 0, 0), (20, 1, 1), (10, 1, 1), (10, 0, 0), (12, 0, 0), (9, 0, 0)]) := by sorry
theorem dX5_worthOf_0 : decode cX5_worthOf 0 = .ok (.iload_n 1, 1) := sorry
theorem dX5_worthOf_1 : decode cX5_worthOf 1 = .ok (.aload_n 0, 1) := sorry
theorem dX5_worthOf_2 : decode cX5_worthOf 2 = .ok (.getfield 42, 3) := sorry
theorem dX5_worthOf_5 : decode cX5_worthOf 5 = .ok (.if_icmp .ge 20, 3) := sorry
theorem dX5_worthOf_25 : decode cX5_worthOf 25 = .ok (.iconst 0, 1) := sorry
theorem dX5_worthOf_26 : decode cX5_worthOf 26 = .ok (.ireturn, 1) := sorry
theorem dX5_worthOf_8 : decode cX5_worthOf 8 = .ok (.iload_n 1, 1) := sorry
theorem dX5_worthOf_9 : decode cX5_worthOf 9 = .ok (.iconst 4, 1) := sorry
theorem dX5_worthOf_10 : decode cX5_worthOf 10 = .ok (.if_icmp .ge 15, 3) := sorry
set_option maxHeartbeats 4000000 in
set_option maxRecDepth 100000 in
theorem k_X5_worthOf_4 (l : Launch) (D : va_G) (cy : Nat → ClassId) (ld : Nat → Nat) (t : tk_T) (a0 : Nat) (p2 : Int32) (p3 : Int32) (ht_a0 : t a0 = (6, 0, 0)) : Met l yX5_worthOf (wl yX5_worthOf cX5_worthOf 11 (some .int)) ({ frames := 3, cells := 0, slots := 0, locals := 140 }) (tp D cy ld t [] [.ref a0, .int 4, .int p2, .int p3] (fun H => True)) (ti D cy ld t [] (fun r H => 0 ≤ r.toInt ∧ r.toInt ≤ 0) (tk_w t [])) 0 0 (tk_w t []) := by sorry
theorem dX5_worthOf_13 : decode cX5_worthOf 13 = .ok (.aload_n 0, 1) := sorry
theorem dX5_worthOf_14 : decode cX5_worthOf 14 = .ok (.getfield 13, 3) := sorry
theorem dX5_worthOf_17 : decode cX5_worthOf 17 = .ok (.iload_n 1, 1) := sorry
theorem dX5_worthOf_18 : decode cX5_worthOf 18 = .ok (.aaload, 1) := sorry
theorem dX5_worthOf_19 : decode cX5_worthOf 19 = .ok (.invokevirtual 75, 3) := sorry
theorem dX5_worthOf_22 : decode cX5_worthOf 22 = .ok (.ifCond .ne 5, 3) := sorry
theorem dX5_worthOf_27 : decode cX5_worthOf 27 = .ok (.aload_n 0, 1) := sorry
theorem dX5_worthOf_28 : decode cX5_worthOf 28 = .ok (.getfield 13, 3) := sorry
theorem dX5_worthOf_31 : decode cX5_worthOf 31 = .ok (.iload_n 1, 1) := sorry
theorem dX5_worthOf_32 : decode cX5_worthOf 32 = .ok (.aaload, 1) := sorry
theorem dX5_worthOf_33 : decode cX5_worthOf 33 = .ok (.astore 4, 2) := sorry
theorem dX5_worthOf_35 : decode cX5_worthOf 35 = .ok (.aload_n 0, 1) := sorry
theorem dX5_worthOf_36 : decode cX5_worthOf 36 = .ok (.getfield 13, 3) := sorry
theorem dX5_worthOf_39 : decode cX5_worthOf 39 = .ok (.iload_n 1, 1) := sorry
theorem dX5_worthOf_40 : decode cX5_worthOf 40 = .ok (.iconst 1, 1) := sorry
theorem dX5_worthOf_41 : decode cX5_worthOf 41 = .ok (.iadd, 1) := sorry
theorem dX5_worthOf_42 : decode cX5_worthOf 42 = .ok (.aaload, 1) := sorry
theorem dX5_worthOf_43 : decode cX5_worthOf 43 = .ok (.astore 5, 2) := sorry
theorem dX5_worthOf_45 : decode cX5_worthOf 45 = .ok (.iconst (-1), 1) := sorry
theorem dX5_worthOf_46 : decode cX5_worthOf 46 = .ok (.istore 6, 2) := sorry
theorem dX5_worthOf_48 : decode cX5_worthOf 48 = .ok (.iconst 0, 1) := sorry
theorem dX5_worthOf_49 : decode cX5_worthOf 49 = .ok (.istore 7, 2) := sorry
theorem dX5_worthOf_51 : decode cX5_worthOf 51 = .ok (.iconst 0, 1) := sorry
theorem dX5_worthOf_52 : decode cX5_worthOf 52 = .ok (.istore 8, 2) := sorry
theorem dX5_worthOf_54 : decode cX5_worthOf 54 = .ok (.iload 8, 2) := sorry
theorem dX5_worthOf_56 : decode cX5_worthOf 56 = .ok (.aload_n 0, 1) := sorry
theorem dX5_worthOf_57 : decode cX5_worthOf 57 = .ok (.getfield 34, 3) := sorry
theorem dX5_worthOf_60 : decode cX5_worthOf 60 = .ok (.getfield 79, 3) := sorry
theorem dX5_worthOf_183 : decode cX5_worthOf 183 = .ok (.iload_n 1, 1) := sorry
theorem dX5_worthOf_184 : decode cX5_worthOf 184 = .ok (.ifCond .ne 9, 3) := sorry
theorem dX5_worthOf_193 : decode cX5_worthOf 193 = .ok (.iload 7, 2) := sorry
theorem dX5_worthOf_195 : decode cX5_worthOf 195 = .ok (.ireturn, 1) := sorry
theorem dX5_worthOf_63 : decode cX5_worthOf 63 = .ok (.if_icmp .ge 120, 3) := sorry
theorem dX5_worthOf_66 : decode cX5_worthOf 66 = .ok (.iload 6, 2) := sorry
theorem dX5_worthOf_68 : decode cX5_worthOf 68 = .ok (.iconst (-1), 1) := sorry
theorem dX5_worthOf_69 : decode cX5_worthOf 69 = .ok (.if_icmp .eq 9, 3) := sorry
theorem dX5_worthOf_78 : decode cX5_worthOf 78 = .ok (.aload_n 0, 1) := sorry
theorem dX5_worthOf_79 : decode cX5_worthOf 79 = .ok (.getfield 38, 3) := sorry
theorem dX5_worthOf_82 : decode cX5_worthOf 82 = .ok (.aload 4, 2) := sorry
theorem dX5_worthOf_84 : decode cX5_worthOf 84 = .ok (.iload 8, 2) := sorry
theorem dX5_worthOf_86 : decode cX5_worthOf 86 = .ok (.invokevirtual 82, 3) := sorry
theorem dX5_worthOf_177 : decode cX5_worthOf 177 = .ok (.iinc 8 1, 3) := sorry
theorem dX5_worthOf_180 : decode cX5_worthOf 180 = .ok (.goto (-126), 3) := sorry
theorem dX5_worthOf_89 : decode cX5_worthOf 89 = .ok (.ifCond .eq 6, 3) := sorry
theorem dX5_worthOf_95 : decode cX5_worthOf 95 = .ok (.aload 5, 2) := sorry
theorem dX5_worthOf_97 : decode cX5_worthOf 97 = .ok (.aload 4, 2) := sorry
theorem dX5_worthOf_99 : decode cX5_worthOf 99 = .ok (.invokevirtual 54, 3) := sorry
theorem dX5_worthOf_102 : decode cX5_worthOf 102 = .ok (.iload 6, 2) := sorry
theorem dX5_worthOf_104 : decode cX5_worthOf 104 = .ok (.iconst (-1), 1) := sorry
theorem dX5_worthOf_105 : decode cX5_worthOf 105 = .ok (.if_icmp .ne 7, 3) := sorry
theorem dX5_worthOf_108 : decode cX5_worthOf 108 = .ok (.iload_n 2, 1) := sorry
theorem dX5_worthOf_109 : decode cX5_worthOf 109 = .ok (.goto 9, 3) := sorry
theorem dX5_worthOf_118 : decode cX5_worthOf 118 = .ok (.istore 9, 2) := sorry
theorem dX5_worthOf_120 : decode cX5_worthOf 120 = .ok (.aload_n 0, 1) := sorry
theorem dX5_worthOf_121 : decode cX5_worthOf 121 = .ok (.getfield 38, 3) := sorry
theorem dX5_worthOf_124 : decode cX5_worthOf 124 = .ok (.aload 5, 2) := sorry
theorem dX5_worthOf_126 : decode cX5_worthOf 126 = .ok (.iload 8, 2) := sorry
theorem dX5_worthOf_128 : decode cX5_worthOf 128 = .ok (.invokevirtual 92, 3) := sorry
theorem dX5_worthOf_154 : decode cX5_worthOf 154 = .ok (.istore 10, 2) := sorry
theorem dX5_worthOf_156 : decode cX5_worthOf 156 = .ok (.iload 6, 2) := sorry
theorem dX5_worthOf_158 : decode cX5_worthOf 158 = .ok (.iconst (-1), 1) := sorry
theorem dX5_worthOf_159 : decode cX5_worthOf 159 = .ok (.if_icmp .eq 10, 3) := sorry
theorem dX5_worthOf_169 : decode cX5_worthOf 169 = .ok (.iload 8, 2) := sorry
theorem dX5_worthOf_171 : decode cX5_worthOf 171 = .ok (.istore 6, 2) := sorry
theorem dX5_worthOf_173 : decode cX5_worthOf 173 = .ok (.iload 10, 2) := sorry
theorem dX5_worthOf_175 : decode cX5_worthOf 175 = .ok (.istore 7, 2) := sorry
theorem dX5_worthOf_131 : decode cX5_worthOf 131 = .ok (.ifCond .ne 10, 3) := sorry
theorem dX5_worthOf_141 : decode cX5_worthOf 141 = .ok (.aload_n 0, 1) := sorry
theorem dX5_worthOf_142 : decode cX5_worthOf 142 = .ok (.iload_n 1, 1) := sorry
theorem dX5_worthOf_143 : decode cX5_worthOf 143 = .ok (.iconst 1, 1) := sorry
theorem dX5_worthOf_144 : decode cX5_worthOf 144 = .ok (.iadd, 1) := sorry
theorem dX5_worthOf_145 : decode cX5_worthOf 145 = .ok (.iload_n 3, 1) := sorry
theorem dX5_worthOf_146 : decode cX5_worthOf 146 = .ok (.ineg, 1) := sorry
theorem dX5_worthOf_147 : decode cX5_worthOf 147 = .ok (.iload 9, 2) := sorry
theorem dX5_worthOf_149 : decode cX5_worthOf 149 = .ok (.ineg, 1) := sorry
theorem dX5_worthOf_150 : decode cX5_worthOf 150 = .ok (.invokevirtual 58, 3) := sorry
theorem dX5_worthOf_153 : decode cX5_worthOf 153 = .ok (.ineg, 1) := sorry
theorem dX5_worthOf_134 : decode cX5_worthOf 134 = .ok (.bipush 100, 2) := sorry
theorem dX5_worthOf_136 : decode cX5_worthOf 136 = .ok (.iload_n 1, 1) := sorry
theorem dX5_worthOf_137 : decode cX5_worthOf 137 = .ok (.isub, 1) := sorry
theorem dX5_worthOf_138 : decode cX5_worthOf 138 = .ok (.goto 16, 3) := sorry
theorem dX5_worthOf_92 : decode cX5_worthOf 92 = .ok (.goto 85, 3) := sorry
theorem dX5_worthOf_72 : decode cX5_worthOf 72 = .ok (.iload 7, 2) := sorry
theorem dX5_worthOf_74 : decode cX5_worthOf 74 = .ok (.iload_n 3, 1) := sorry
theorem dX5_worthOf_75 : decode cX5_worthOf 75 = .ok (.if_icmp .ge 108, 3) := sorry
theorem dX5_worthOf_112 : decode cX5_worthOf 112 = .ok (.iload_n 2, 1) := sorry
theorem dX5_worthOf_113 : decode cX5_worthOf 113 = .ok (.iload 7, 2) := sorry
theorem dX5_worthOf_115 : decode cX5_worthOf 115 = .ok (.invokestatic 88, 3) := sorry
theorem dX5_worthOf_162 : decode cX5_worthOf 162 = .ok (.iload 10, 2) := sorry
theorem dX5_worthOf_164 : decode cX5_worthOf 164 = .ok (.iload 7, 2) := sorry
theorem dX5_worthOf_166 : decode cX5_worthOf 166 = .ok (.if_icmp .le 11, 3) := sorry
set_option maxHeartbeats 4000000 in
set_option maxRecDepth 100000 in
theorem k_X5_worthOf_3 (l : Launch) (D : va_G) (cy : Nat → ClassId) (ld : Nat → Nat) (t : tk_T) (a0 : Nat) (p2 : Int32) (p3 : Int32) (ht_a0 : t a0 = (6, 0, 0)) : Met l yX5_worthOf (wl yX5_worthOf cX5_worthOf 11 (some .int)) ({ frames := 7, cells := 0, slots := 0, locals := 420 }) (tp D cy ld t [] [.ref a0, .int 3, .int p2, .int p3] (fun H => True)) (ti D cy ld t [] (fun r H => 0 ≤ r.toInt ∧ r.toInt ≤ 100) (tk_w t [(20, 0, 0), (12, 0, 0), (9, 0, 0), (20, 14, 14), (10, 14, 14)])) 0 0 (tk_w t [(20, 0, 0), (12, 0, 0), (9, 0, 0), (20, 14, 14), (10, 14, 14)]) := by sorry
set_option maxHeartbeats 4000000 in
set_option maxRecDepth 100000 in
theorem k_X5_worthOf_2 (l : Launch) (D : va_G) (cy : Nat → ClassId) (ld : Nat → Nat) (t : tk_T) (a0 : Nat) (p2 : Int32) (p3 : Int32) (ht_a0 : t a0 = (6, 0, 0)) : Met l yX5_worthOf (wl yX5_worthOf cX5_worthOf 11 (some .int)) ({ frames := 8, cells := 0, slots := 0, locals := 490 }) (tp D cy ld t [] [.ref a0, .int 2, .int p2, .int p3] (fun H => True)) (ti D cy ld t [] (fun r H => (-1000000000) ≤ r.toInt ∧ r.toInt ≤ 100) (tk_w t [(20, 0, 0), (12, 0, 0), (9, 0, 0), (20, 13, 13), (10, 13, 13), (20, 14, 14), (10, 14, 14)])) 0 0 (tk_w t [(20, 0, 0), (12, 0, 0), (9, 0, 0), (20, 13, 13), (10, 13, 13), (20, 14, 14), (10, 14, 14)]) := by sorry
end

section
set_option maxHeartbeats 4000000 in
set_option maxRecDepth 100000 in
theorem k_X5_worthOf_1 (l : Launch) (D : va_G) (cy : Nat → ClassId) (ld : Nat → Nat) (t : tk_T) (a0 : Nat) (p2 : Int32) (p3 : Int32) (ht_a0 : t a0 = (6, 0, 0)) : Met l yX5_worthOf (wl yX5_worthOf cX5_worthOf 11 (some .int)) ({ frames := 9, cells := 0, slots := 0, locals := 560 }) (tp D cy ld t [] [.ref a0, .int 1, .int p2, .int p3] (fun H => True)) (ti D cy ld t [] (fun r H => (-1000000000) ≤ r.toInt ∧ r.toInt ≤ 1000000000) (tk_w t [(20, 0, 0), (12, 0, 0), (9, 0, 0), (20, 12, 12), (10, 12, 12), (20, 13, 13), (10, 13, 13), (20, 14, 14), (10, 14, 14)])) 0 0 (tk_w t [(20, 0, 0), (12, 0, 0), (9, 0, 0), (20, 12, 12), (10, 12, 12), (20, 13, 13), (10, 13, 13), (20, 14, 14), (10, 14, 14)]) := by sorry
theorem dX5_worthOf_187 : decode cX5_worthOf 187 = .ok (.aload_n 0, 1) := sorry
theorem dX5_worthOf_188 : decode cX5_worthOf 188 = .ok (.iload 6, 2) := sorry
theorem dX5_worthOf_190 : decode cX5_worthOf 190 = .ok (.putfield 46, 3) := sorry
set_option maxHeartbeats 4000000 in
set_option maxRecDepth 100000 in
theorem k_X5_worthOf_0 (l : Launch) (D : va_G) (cy : Nat → ClassId) (ld : Nat → Nat) (t : tk_T) (a0 : Nat) (p2 : Int32) (p3 : Int32) (ht_a0 : t a0 = (6, 0, 0)) : Met l yX5_worthOf (wl yX5_worthOf cX5_worthOf 11 (some .int)) ({ frames := 10, cells := 0, slots := 0, locals := 630 }) (tp D cy ld t [] [.ref a0, .int 0, .int p2, .int p3] (fun H => True)) (ti D cy ld t [] (fun r H => (-1000000000) ≤ r.toInt ∧ r.toInt ≤ 1000000000) (tk_w t [(20, 0, 0), (12, 0, 0), (9, 0, 0), (20, 11, 11), (10, 11, 11), (20, 12, 12), (10, 12, 12), (20, 13, 13), (10, 13, 13), (20, 14, 14), (10, 14, 14), (6, 0, 0)])) 0 0 (tk_w t [(20, 0, 0), (12, 0, 0), (9, 0, 0), (20, 11, 11), (10, 11, 11), (20, 12, 12), (10, 12, 12), (20, 13, 13), (10, 13, 13), (20, 14, 14), (10, 14, 14), (6, 0, 0)]) := by sorry
theorem dX5_lookAhead_0 : decode cX5_lookAhead 0 = .ok (.aload_n 0, 1) := sorry
theorem dX5_lookAhead_1 : decode cX5_lookAhead 1 = .ok (.iload_n 1, 1) := sorry
theorem dX5_lookAhead_2 : decode cX5_lookAhead 2 = .ok (.putfield 42, 3) := sorry
theorem dX5_lookAhead_5 : decode cX5_lookAhead 5 = .ok (.aload_n 0, 1) := sorry
theorem dX5_lookAhead_6 : decode cX5_lookAhead 6 = .ok (.iconst (-1), 1) := sorry
theorem dX5_lookAhead_7 : decode cX5_lookAhead 7 = .ok (.putfield 46, 3) := sorry
theorem dX5_lookAhead_10 : decode cX5_lookAhead 10 = .ok (.aload_n 0, 1) := sorry
theorem dX5_lookAhead_11 : decode cX5_lookAhead 11 = .ok (.getfield 13, 3) := sorry
theorem dX5_lookAhead_14 : decode cX5_lookAhead 14 = .ok (.iconst 0, 1) := sorry
theorem dX5_lookAhead_15 : decode cX5_lookAhead 15 = .ok (.aaload, 1) := sorry
theorem dX5_lookAhead_16 : decode cX5_lookAhead 16 = .ok (.aload_n 0, 1) := sorry
theorem dX5_lookAhead_17 : decode cX5_lookAhead 17 = .ok (.getfield 34, 3) := sorry
theorem dX5_lookAhead_20 : decode cX5_lookAhead 20 = .ok (.getfield 49, 3) := sorry
theorem dX5_lookAhead_23 : decode cX5_lookAhead 23 = .ok (.invokevirtual 54, 3) := sorry
theorem dX5_lookAhead_26 : decode cX5_lookAhead 26 = .ok (.aload_n 0, 1) := sorry
theorem dX5_lookAhead_27 : decode cX5_lookAhead 27 = .ok (.iconst 0, 1) := sorry
theorem dX5_lookAhead_28 : decode cX5_lookAhead 28 = .ok (.sipush (-200), 3) := sorry
theorem dX5_lookAhead_31 : decode cX5_lookAhead 31 = .ok (.sipush 200, 3) := sorry
theorem dX5_lookAhead_34 : decode cX5_lookAhead 34 = .ok (.invokevirtual 58, 3) := sorry
theorem dX5_lookAhead_37 : decode cX5_lookAhead 37 = .ok (.istore_n 3, 1) := sorry
theorem dX5_lookAhead_38 : decode cX5_lookAhead 38 = .ok (.iload_n 2, 1) := sorry
theorem dX5_lookAhead_39 : decode cX5_lookAhead 39 = .ok (.ifCond .ne 19, 3) := sorry
theorem dX5_lookAhead_58 : decode cX5_lookAhead 58 = .ok (.iload_n 2, 1) := sorry
theorem dX5_lookAhead_59 : decode cX5_lookAhead 59 = .ok (.iconst 1, 1) := sorry
theorem dX5_lookAhead_60 : decode cX5_lookAhead 60 = .ok (.if_icmp .ne 39, 3) := sorry
theorem dX5_lookAhead_99 : decode cX5_lookAhead 99 = .ok (.aload_n 0, 1) := sorry
theorem dX5_lookAhead_100 : decode cX5_lookAhead 100 = .ok (.getfield 46, 3) := sorry
theorem dX5_lookAhead_103 : decode cX5_lookAhead 103 = .ok (.ireturn, 1) := sorry
theorem dX5_lookAhead_63 : decode cX5_lookAhead 63 = .ok (.iload_n 3, 1) := sorry
theorem dX5_lookAhead_64 : decode cX5_lookAhead 64 = .ok (.ifCond .ne 7, 3) := sorry
theorem dX5_lookAhead_71 : decode cX5_lookAhead 71 = .ok (.iload_n 3, 1) := sorry
theorem dX5_lookAhead_72 : decode cX5_lookAhead 72 = .ok (.ifCond .le 16, 3) := sorry
theorem dX5_lookAhead_88 : decode cX5_lookAhead 88 = .ok (.aload_n 0, 1) := sorry
theorem dX5_lookAhead_89 : decode cX5_lookAhead 89 = .ok (.getfield 34, 3) := sorry
theorem dX5_lookAhead_92 : decode cX5_lookAhead 92 = .ok (.getfield 49, 3) := sorry
theorem dX5_lookAhead_95 : decode cX5_lookAhead 95 = .ok (.invokevirtual 72, 3) := sorry
theorem dX5_lookAhead_98 : decode cX5_lookAhead 98 = .ok (.ireturn, 1) := sorry
theorem dX5_lookAhead_75 : decode cX5_lookAhead 75 = .ok (.aload_n 0, 1) := sorry
theorem dX5_lookAhead_76 : decode cX5_lookAhead 76 = .ok (.getfield 34, 3) := sorry
theorem dX5_lookAhead_79 : decode cX5_lookAhead 79 = .ok (.getfield 49, 3) := sorry
theorem dX5_lookAhead_82 : decode cX5_lookAhead 82 = .ok (.invokevirtual 68, 3) := sorry
theorem dX5_lookAhead_85 : decode cX5_lookAhead 85 = .ok (.goto 13, 3) := sorry
theorem dX5_lookAhead_67 : decode cX5_lookAhead 67 = .ok (.iconst (-1), 1) := sorry
theorem dX5_lookAhead_68 : decode cX5_lookAhead 68 = .ok (.goto 30, 3) := sorry
theorem dX5_lookAhead_42 : decode cX5_lookAhead 42 = .ok (.iload_n 3, 1) := sorry
theorem dX5_lookAhead_43 : decode cX5_lookAhead 43 = .ok (.ifCond .ne 7, 3) := sorry
theorem dX5_lookAhead_50 : decode cX5_lookAhead 50 = .ok (.bipush 101, 2) := sorry
theorem dX5_lookAhead_52 : decode cX5_lookAhead 52 = .ok (.iload_n 3, 1) := sorry
theorem dX5_lookAhead_53 : decode cX5_lookAhead 53 = .ok (.invokestatic 62, 3) := sorry
theorem dX5_lookAhead_56 : decode cX5_lookAhead 56 = .ok (.isub, 1) := sorry
theorem dX5_lookAhead_57 : decode cX5_lookAhead 57 = .ok (.ireturn, 1) := sorry
theorem dX5_lookAhead_46 : decode cX5_lookAhead 46 = .ok (.iconst 0, 1) := sorry
theorem dX5_lookAhead_47 : decode cX5_lookAhead 47 = .ok (.goto 10, 3) := sorry
set_option maxHeartbeats 4000000 in
set_option maxRecDepth 100000 in
theorem k_X5_lookAhead (l : Launch) (D : va_G) (cy : Nat → ClassId) (ld : Nat → Nat) (t : tk_T) (a0 : Nat) (p1 : Int32) (p2 : Int32) (ht_a0 : t a0 = (6, 0, 0)) : Met l yX5_lookAhead (wl yX5_lookAhead cX5_lookAhead 4 (some .int)) ({ frames := 11, cells := 0, slots := 0, locals := 700 }) (tp D cy ld t [] [.ref a0, .int p1, .int p2] (fun H => True)) (ti D cy ld t [] (fun r H => True) (tk_w t [(6, 0, 0), (20, 10, 10), (10, 10, 10), (20, 0, 0), (12, 0, 0), (9, 0, 0), (20, 11, 11), (10, 11, 11), (20, 12, 12), (10, 12, 12), (20, 13, 13), (10, 13, 13), (20, 14, 14), (10, 14, 14)])) 0 0 (tk_w t [(6, 0, 0), (20, 10, 10), (10, 10, 10), (20, 0, 0), (12, 0, 0), (9, 0, 0), (20, 11, 11), (10, 11, 11), (20, 12, 12), (10, 12, 12), (20, 13, 13), (10, 13, 13), (20, 14, 14), (10, 14, 14)]) := by sorry
theorem dX5_openBout_0 : decode cX5_openBout 0 = .ok (.aload_n 0, 1) := sorry
theorem dX5_openBout_1 : decode cX5_openBout 1 = .ok (.getfield 18, 3) := sorry
theorem dX5_openBout_4 : decode cX5_openBout 4 = .ok (.aload_n 0, 1) := sorry
theorem dX5_openBout_5 : decode cX5_openBout 5 = .ok (.getfield 34, 3) := sorry
theorem dX5_openBout_8 : decode cX5_openBout 8 = .ok (.getfield 49, 3) := sorry
theorem dX5_openBout_11 : decode cX5_openBout 11 = .ok (.invokevirtual 54, 3) := sorry
theorem dX5_openBout_14 : decode cX5_openBout 14 = .ok (.aload_n 0, 1) := sorry
theorem dX5_openBout_15 : decode cX5_openBout 15 = .ok (.getfield 18, 3) := sorry
theorem dX5_openBout_18 : decode cX5_openBout 18 = .ok (.iload_n 1, 1) := sorry
theorem dX5_openBout_19 : decode cX5_openBout 19 = .ok (.iload_n 2, 1) := sorry
theorem dX5_openBout_20 : decode cX5_openBout 20 = .ok (.iconst 1, 1) := sorry
theorem dX5_openBout_21 : decode cX5_openBout 21 = .ok (.invokevirtual 103, 3) := sorry
theorem dX5_openBout_24 : decode cX5_openBout 24 = .ok (.aload_n 0, 1) := sorry
theorem dX5_openBout_25 : decode cX5_openBout 25 = .ok (.getfield 18, 3) := sorry
theorem dX5_openBout_28 : decode cX5_openBout 28 = .ok (.getfield 107, 3) := sorry
theorem dX5_openBout_31 : decode cX5_openBout 31 = .ok (.iload_n 1, 1) := sorry
theorem dX5_openBout_32 : decode cX5_openBout 32 = .ok (.iaload, 1) := sorry
theorem dX5_openBout_33 : decode cX5_openBout 33 = .ok (.ifCond .le 19, 3) := sorry
theorem dX5_openBout_52 : decode cX5_openBout 52 = .ok (.iconst 0, 1) := sorry
theorem dX5_openBout_53 : decode cX5_openBout 53 = .ok (.ireturn, 1) := sorry
theorem dX5_openBout_36 : decode cX5_openBout 36 = .ok (.aload_n 0, 1) := sorry
theorem dX5_openBout_37 : decode cX5_openBout 37 = .ok (.getfield 18, 3) := sorry
theorem dX5_openBout_40 : decode cX5_openBout 40 = .ok (.getfield 107, 3) := sorry
theorem dX5_openBout_43 : decode cX5_openBout 43 = .ok (.iload_n 2, 1) := sorry
theorem dX5_openBout_44 : decode cX5_openBout 44 = .ok (.iaload, 1) := sorry
theorem dX5_openBout_45 : decode cX5_openBout 45 = .ok (.ifCond .le 7, 3) := sorry
theorem dX5_openBout_48 : decode cX5_openBout 48 = .ok (.iconst 1, 1) := sorry
theorem dX5_openBout_49 : decode cX5_openBout 49 = .ok (.goto 4, 3) := sorry
set_option maxHeartbeats 4000000 in
set_option maxRecDepth 100000 in
theorem k_X5_openBout (l : Launch) (D : va_G) (cy : Nat → ClassId) (ld : Nat → Nat) (t : tk_T) (a0 : Nat) (p1 : Int32) (p2 : Int32) (ht_a0 : t a0 = (6, 0, 0)) (hp_0 : 0 ≤ p1.toInt) (hp_1 : p1.toInt ≤ 7) (hp_2 : 0 ≤ p2.toInt) (hp_3 : p2.toInt ≤ 7) : Met l yX5_openBout (wl yX5_openBout cX5_openBout 3 (some .boolean)) ({ frames := 5, cells := 0, slots := 0, locals := 280 }) (tp D cy ld t [] [.ref a0, .int p1, .int p2] (fun H => True)) (ti D cy ld t [] (fun r H => 0 ≤ r.toInt ∧ r.toInt ≤ 1 ∧ 0 ≤ r.toInt ∧ r.toInt ≤ 1) (tk_w t [(20, 4, 4), (10, 4, 4)])) 0 0 (tk_w t [(20, 4, 4), (10, 4, 4)]) := by sorry
theorem dX5_resultAtOnce_0 : decode cX5_resultAtOnce 0 = .ok (.aload_n 0, 1) := sorry
theorem dX5_resultAtOnce_1 : decode cX5_resultAtOnce 1 = .ok (.getfield 18, 3) := sorry
theorem dX5_resultAtOnce_4 : decode cX5_resultAtOnce 4 = .ok (.getfield 107, 3) := sorry
theorem dX5_resultAtOnce_7 : decode cX5_resultAtOnce 7 = .ok (.iload_n 1, 1) := sorry
theorem dX5_resultAtOnce_8 : decode cX5_resultAtOnce 8 = .ok (.iaload, 1) := sorry
theorem dX5_resultAtOnce_17 : decode cX5_resultAtOnce 17 = .ok (.aload_n 0, 1) := sorry
theorem dX5_resultAtOnce_18 : decode cX5_resultAtOnce 18 = .ok (.getfield 18, 3) := sorry
theorem dX5_resultAtOnce_21 : decode cX5_resultAtOnce 21 = .ok (.getfield 107, 3) := sorry
theorem dX5_resultAtOnce_24 : decode cX5_resultAtOnce 24 = .ok (.iload_n 2, 1) := sorry
theorem dX5_resultAtOnce_25 : decode cX5_resultAtOnce 25 = .ok (.iaload, 1) := sorry
theorem dX5_resultAtOnce_34 : decode cX5_resultAtOnce 34 = .ok (.isub, 1) := sorry
theorem dX5_resultAtOnce_35 : decode cX5_resultAtOnce 35 = .ok (.ireturn, 1) := sorry
theorem dX5_resultAtOnce_26 : decode cX5_resultAtOnce 26 = .ok (.ifCond .le 7, 3) := sorry
theorem dX5_resultAtOnce_33 : decode cX5_resultAtOnce 33 = .ok (.iconst 0, 1) := sorry
theorem dX5_resultAtOnce_29 : decode cX5_resultAtOnce 29 = .ok (.iconst 1, 1) := sorry
theorem dX5_resultAtOnce_30 : decode cX5_resultAtOnce 30 = .ok (.goto 4, 3) := sorry
theorem dX5_resultAtOnce_9 : decode cX5_resultAtOnce 9 = .ok (.ifCond .le 7, 3) := sorry
theorem dX5_resultAtOnce_16 : decode cX5_resultAtOnce 16 = .ok (.iconst 0, 1) := sorry
theorem dX5_resultAtOnce_12 : decode cX5_resultAtOnce 12 = .ok (.iconst 1, 1) := sorry
theorem dX5_resultAtOnce_13 : decode cX5_resultAtOnce 13 = .ok (.goto 4, 3) := sorry
set_option maxHeartbeats 4000000 in
set_option maxRecDepth 100000 in
theorem k_X5_resultAtOnce (l : Launch) (D : va_G) (cy : Nat → ClassId) (ld : Nat → Nat) (t : tk_T) (a0 : Nat) (p1 : Int32) (p2 : Int32) (ht_a0 : t a0 = (6, 0, 0)) (hp_0 : 0 ≤ p1.toInt) (hp_1 : p1.toInt ≤ 7) (hp_2 : 0 ≤ p2.toInt) (hp_3 : p2.toInt ≤ 7) : Met l yX5_resultAtOnce (wl yX5_resultAtOnce cX5_resultAtOnce 3 (some .int)) ({ frames := 3, cells := 0, slots := 0, locals := 140 }) (tp D cy ld t [] [.ref a0, .int p1, .int p2] (fun H => True)) (ti D cy ld t [] (fun r H => (-1) ≤ r.toInt ∧ r.toInt ≤ 1) (tk_w t [])) 0 0 (tk_w t []) := by sorry
theorem dX5_resultByVerses_0 : decode cX5_resultByVerses 0 = .ok (.aload_n 0, 1) := sorry
theorem dX5_resultByVerses_1 : decode cX5_resultByVerses 1 = .ok (.iload_n 1, 1) := sorry
theorem dX5_resultByVerses_2 : decode cX5_resultByVerses 2 = .ok (.iload_n 2, 1) := sorry
theorem dX5_resultByVerses_3 : decode cX5_resultByVerses 3 = .ok (.invokevirtual 110, 3) := sorry
theorem dX5_resultByVerses_6 : decode cX5_resultByVerses 6 = .ok (.ifCond .ne 10, 3) := sorry
theorem dX5_resultByVerses_16 : decode cX5_resultByVerses 16 = .ok (.iconst 0, 1) := sorry
theorem dX5_resultByVerses_17 : decode cX5_resultByVerses 17 = .ok (.istore 5, 2) := sorry
theorem dX5_resultByVerses_19 : decode cX5_resultByVerses 19 = .ok (.iload 5, 2) := sorry
theorem dX5_resultByVerses_21 : decode cX5_resultByVerses 21 = .ok (.bipush 24, 2) := sorry
theorem dX5_resultByVerses_23 : decode cX5_resultByVerses 23 = .ok (.if_icmp .ge 86, 3) := sorry
theorem dX5_resultByVerses_109 : decode cX5_resultByVerses 109 = .ok (.iconst 0, 1) := sorry
theorem dX5_resultByVerses_110 : decode cX5_resultByVerses 110 = .ok (.ireturn, 1) := sorry
theorem dX5_resultByVerses_26 : decode cX5_resultByVerses 26 = .ok (.aload_n 0, 1) := sorry
theorem dX5_resultByVerses_27 : decode cX5_resultByVerses 27 = .ok (.getfield 18, 3) := sorry
theorem dX5_resultByVerses_30 : decode cX5_resultByVerses 30 = .ok (.invokevirtual 75, 3) := sorry
theorem dX5_resultByVerses_33 : decode cX5_resultByVerses 33 = .ok (.ifCond .eq 76, 3) := sorry
theorem dX5_resultByVerses_36 : decode cX5_resultByVerses 36 = .ok (.aload_n 0, 1) := sorry
theorem dX5_resultByVerses_37 : decode cX5_resultByVerses 37 = .ok (.getfield 18, 3) := sorry
theorem dX5_resultByVerses_40 : decode cX5_resultByVerses 40 = .ok (.getfield 117, 3) := sorry
theorem dX5_resultByVerses_43 : decode cX5_resultByVerses 43 = .ok (.istore 6, 2) := sorry
theorem dX5_resultByVerses_45 : decode cX5_resultByVerses 45 = .ok (.iload 6, 2) := sorry
theorem dX5_resultByVerses_56 : decode cX5_resultByVerses 56 = .ok (.istore 7, 2) := sorry
theorem dX5_resultByVerses_58 : decode cX5_resultByVerses 58 = .ok (.aload_n 0, 1) := sorry
theorem dX5_resultByVerses_59 : decode cX5_resultByVerses 59 = .ok (.getfield 38, 3) := sorry
theorem dX5_resultByVerses_62 : decode cX5_resultByVerses 62 = .ok (.aload_n 0, 1) := sorry
theorem dX5_resultByVerses_63 : decode cX5_resultByVerses 63 = .ok (.getfield 18, 3) := sorry
theorem dX5_resultByVerses_66 : decode cX5_resultByVerses 66 = .ok (.iload 7, 2) := sorry
theorem dX5_resultByVerses_68 : decode cX5_resultByVerses 68 = .ok (.invokevirtual 82, 3) := sorry
theorem dX5_resultByVerses_71 : decode cX5_resultByVerses 71 = .ok (.ifCond .eq 5, 3) := sorry
theorem dX5_resultByVerses_76 : decode cX5_resultByVerses 76 = .ok (.aload_n 0, 1) := sorry
theorem dX5_resultByVerses_77 : decode cX5_resultByVerses 77 = .ok (.getfield 38, 3) := sorry
theorem dX5_resultByVerses_80 : decode cX5_resultByVerses 80 = .ok (.aload_n 0, 1) := sorry
theorem dX5_resultByVerses_81 : decode cX5_resultByVerses 81 = .ok (.getfield 18, 3) := sorry
theorem dX5_resultByVerses_84 : decode cX5_resultByVerses 84 = .ok (.iload 7, 2) := sorry
theorem dX5_resultByVerses_86 : decode cX5_resultByVerses 86 = .ok (.invokevirtual 92, 3) := sorry
theorem dX5_resultByVerses_89 : decode cX5_resultByVerses 89 = .ok (.ifCond .ne 14, 3) := sorry
theorem dX5_resultByVerses_103 : decode cX5_resultByVerses 103 = .ok (.iinc 5 1, 3) := sorry
theorem dX5_resultByVerses_106 : decode cX5_resultByVerses 106 = .ok (.goto (-87), 3) := sorry
theorem dX5_resultByVerses_92 : decode cX5_resultByVerses 92 = .ok (.iload 6, 2) := sorry
theorem dX5_resultByVerses_94 : decode cX5_resultByVerses 94 = .ok (.ifCond .eq 7, 3) := sorry
theorem dX5_resultByVerses_101 : decode cX5_resultByVerses 101 = .ok (.iconst 1, 1) := sorry
theorem dX5_resultByVerses_102 : decode cX5_resultByVerses 102 = .ok (.ireturn, 1) := sorry
theorem dX5_resultByVerses_97 : decode cX5_resultByVerses 97 = .ok (.iconst (-1), 1) := sorry
theorem dX5_resultByVerses_98 : decode cX5_resultByVerses 98 = .ok (.goto 4, 3) := sorry
theorem dX5_resultByVerses_74 : decode cX5_resultByVerses 74 = .ok (.iconst 0, 1) := sorry
theorem dX5_resultByVerses_75 : decode cX5_resultByVerses 75 = .ok (.ireturn, 1) := sorry
theorem dX5_resultByVerses_47 : decode cX5_resultByVerses 47 = .ok (.ifCond .eq 8, 3) := sorry
theorem dX5_resultByVerses_55 : decode cX5_resultByVerses 55 = .ok (.iload_n 3, 1) := sorry
theorem dX5_resultByVerses_50 : decode cX5_resultByVerses 50 = .ok (.iload 4, 2) := sorry
theorem dX5_resultByVerses_52 : decode cX5_resultByVerses 52 = .ok (.goto 4, 3) := sorry
theorem dX5_resultByVerses_9 : decode cX5_resultByVerses 9 = .ok (.aload_n 0, 1) := sorry
theorem dX5_resultByVerses_10 : decode cX5_resultByVerses 10 = .ok (.iload_n 1, 1) := sorry
theorem dX5_resultByVerses_11 : decode cX5_resultByVerses 11 = .ok (.iload_n 2, 1) := sorry
theorem dX5_resultByVerses_12 : decode cX5_resultByVerses 12 = .ok (.invokevirtual 114, 3) := sorry
theorem dX5_resultByVerses_15 : decode cX5_resultByVerses 15 = .ok (.ireturn, 1) := sorry
set_option maxHeartbeats 4000000 in
set_option maxRecDepth 100000 in
theorem k_X5_resultByVerses (l : Launch) (D : va_G) (cy : Nat → ClassId) (ld : Nat → Nat) (t : tk_T) (a0 : Nat) (p1 : Int32) (p2 : Int32) (p3 : Int32) (p4 : Int32) (ht_a0 : t a0 = (6, 0, 0)) (hp_0 : 0 ≤ p1.toInt) (hp_1 : p1.toInt ≤ 7) (hp_2 : 0 ≤ p2.toInt) (hp_3 : p2.toInt ≤ 7) (hp_4 : 0 ≤ p3.toInt) (hp_5 : p3.toInt ≤ 9) (hp_6 : 0 ≤ p4.toInt) (hp_7 : p4.toInt ≤ 9) : Met l yX5_resultByVerses (wl yX5_resultByVerses cX5_resultByVerses 8 (some .int)) ({ frames := 7, cells := 0, slots := 0, locals := 420 }) (tp D cy ld t [] [.ref a0, .int p1, .int p2, .int p3, .int p4] (fun H => True)) (ti D cy ld t [] (fun r H => (-1) ≤ r.toInt ∧ r.toInt ≤ 1) (tk_w t [(20, 4, 4), (10, 4, 4), (20, 0, 0), (12, 0, 0), (9, 0, 0)])) 0 0 (tk_w t [(20, 4, 4), (10, 4, 4), (20, 0, 0), (12, 0, 0), (9, 0, 0)]) := by sorry
theorem dX5_bestOfWorst_0 : decode cX5_bestOfWorst 0 = .ok (.bipush (-2), 2) := sorry
theorem dX5_bestOfWorst_2 : decode cX5_bestOfWorst 2 = .ok (.istore 4, 2) := sorry
theorem dX5_bestOfWorst_4 : decode cX5_bestOfWorst 4 = .ok (.iconst (-1), 1) := sorry
theorem dX5_bestOfWorst_5 : decode cX5_bestOfWorst 5 = .ok (.istore 5, 2) := sorry
theorem dX5_bestOfWorst_7 : decode cX5_bestOfWorst 7 = .ok (.iconst 0, 1) := sorry
theorem dX5_bestOfWorst_8 : decode cX5_bestOfWorst 8 = .ok (.istore 6, 2) := sorry
theorem dX5_bestOfWorst_10 : decode cX5_bestOfWorst 10 = .ok (.iload 6, 2) := sorry
theorem dX5_bestOfWorst_12 : decode cX5_bestOfWorst 12 = .ok (.aload_n 0, 1) := sorry
theorem dX5_bestOfWorst_13 : decode cX5_bestOfWorst 13 = .ok (.getfield 34, 3) := sorry
theorem dX5_bestOfWorst_16 : decode cX5_bestOfWorst 16 = .ok (.getfield 79, 3) := sorry
theorem dX5_bestOfWorst_97 : decode cX5_bestOfWorst 97 = .ok (.iload_n 3, 1) := sorry
theorem dX5_bestOfWorst_98 : decode cX5_bestOfWorst 98 = .ok (.ifCond .eq 8, 3) := sorry
theorem dX5_bestOfWorst_106 : decode cX5_bestOfWorst 106 = .ok (.iload 4, 2) := sorry
theorem dX5_bestOfWorst_108 : decode cX5_bestOfWorst 108 = .ok (.ireturn, 1) := sorry
theorem dX5_bestOfWorst_101 : decode cX5_bestOfWorst 101 = .ok (.iload 5, 2) := sorry
theorem dX5_bestOfWorst_103 : decode cX5_bestOfWorst 103 = .ok (.goto 5, 3) := sorry
theorem dX5_bestOfWorst_19 : decode cX5_bestOfWorst 19 = .ok (.if_icmp .ge 78, 3) := sorry
theorem dX5_bestOfWorst_22 : decode cX5_bestOfWorst 22 = .ok (.iload 4, 2) := sorry
theorem dX5_bestOfWorst_24 : decode cX5_bestOfWorst 24 = .ok (.iconst 1, 1) := sorry
theorem dX5_bestOfWorst_25 : decode cX5_bestOfWorst 25 = .ok (.if_icmp .ge 72, 3) := sorry
theorem dX5_bestOfWorst_28 : decode cX5_bestOfWorst 28 = .ok (.iconst 1, 1) := sorry
theorem dX5_bestOfWorst_29 : decode cX5_bestOfWorst 29 = .ok (.istore 7, 2) := sorry
theorem dX5_bestOfWorst_31 : decode cX5_bestOfWorst 31 = .ok (.iconst 0, 1) := sorry
theorem dX5_bestOfWorst_32 : decode cX5_bestOfWorst 32 = .ok (.istore 8, 2) := sorry
theorem dX5_bestOfWorst_34 : decode cX5_bestOfWorst 34 = .ok (.iload 8, 2) := sorry
theorem dX5_bestOfWorst_36 : decode cX5_bestOfWorst 36 = .ok (.aload_n 0, 1) := sorry
theorem dX5_bestOfWorst_37 : decode cX5_bestOfWorst 37 = .ok (.getfield 34, 3) := sorry
theorem dX5_bestOfWorst_40 : decode cX5_bestOfWorst 40 = .ok (.getfield 79, 3) := sorry
theorem dX5_bestOfWorst_76 : decode cX5_bestOfWorst 76 = .ok (.iload 7, 2) := sorry
theorem dX5_bestOfWorst_78 : decode cX5_bestOfWorst 78 = .ok (.iload 4, 2) := sorry
theorem dX5_bestOfWorst_91 : decode cX5_bestOfWorst 91 = .ok (.iinc 6 1, 3) := sorry
theorem dX5_bestOfWorst_94 : decode cX5_bestOfWorst 94 = .ok (.goto (-84), 3) := sorry
theorem dX5_bestOfWorst_80 : decode cX5_bestOfWorst 80 = .ok (.if_icmp .le 11, 3) := sorry
theorem dX5_bestOfWorst_83 : decode cX5_bestOfWorst 83 = .ok (.iload 7, 2) := sorry
theorem dX5_bestOfWorst_85 : decode cX5_bestOfWorst 85 = .ok (.istore 4, 2) := sorry
theorem dX5_bestOfWorst_87 : decode cX5_bestOfWorst 87 = .ok (.iload 6, 2) := sorry
theorem dX5_bestOfWorst_89 : decode cX5_bestOfWorst 89 = .ok (.istore 5, 2) := sorry
theorem dX5_bestOfWorst_43 : decode cX5_bestOfWorst 43 = .ok (.if_icmp .ge 33, 3) := sorry
theorem dX5_bestOfWorst_46 : decode cX5_bestOfWorst 46 = .ok (.iload 7, 2) := sorry
theorem dX5_bestOfWorst_48 : decode cX5_bestOfWorst 48 = .ok (.iload 4, 2) := sorry
theorem dX5_bestOfWorst_50 : decode cX5_bestOfWorst 50 = .ok (.if_icmp .le 26, 3) := sorry
theorem dX5_bestOfWorst_53 : decode cX5_bestOfWorst 53 = .ok (.iload 7, 2) := sorry
theorem dX5_bestOfWorst_55 : decode cX5_bestOfWorst 55 = .ok (.aload_n 0, 1) := sorry
theorem dX5_bestOfWorst_56 : decode cX5_bestOfWorst 56 = .ok (.iload_n 1, 1) := sorry
theorem dX5_bestOfWorst_57 : decode cX5_bestOfWorst 57 = .ok (.iload_n 2, 1) := sorry
theorem dX5_bestOfWorst_58 : decode cX5_bestOfWorst 58 = .ok (.iload 6, 2) := sorry
theorem dX5_bestOfWorst_60 : decode cX5_bestOfWorst 60 = .ok (.iload 8, 2) := sorry
theorem dX5_bestOfWorst_62 : decode cX5_bestOfWorst 62 = .ok (.invokevirtual 96, 3) := sorry
theorem dX5_bestOfWorst_65 : decode cX5_bestOfWorst 65 = .ok (.invokestatic 100, 3) := sorry
theorem dX5_bestOfWorst_68 : decode cX5_bestOfWorst 68 = .ok (.istore 7, 2) := sorry
theorem dX5_bestOfWorst_70 : decode cX5_bestOfWorst 70 = .ok (.iinc 8 1, 3) := sorry
theorem dX5_bestOfWorst_73 : decode cX5_bestOfWorst 73 = .ok (.goto (-39), 3) := sorry
set_option maxHeartbeats 4000000 in
set_option maxRecDepth 100000 in
theorem k_X5_bestOfWorst (l : Launch) (D : va_G) (cy : Nat → ClassId) (ld : Nat → Nat) (t : tk_T) (a0 : Nat) (p1 : Int32) (p2 : Int32) (p3 : Int32) (ht_a0 : t a0 = (6, 0, 0)) (hp_0 : 0 ≤ p1.toInt) (hp_1 : p1.toInt ≤ 7) (hp_2 : 0 ≤ p2.toInt) (hp_3 : p2.toInt ≤ 7) (hp_4 : 0 ≤ p3.toInt) (hp_5 : p3.toInt ≤ 1) : Met l yX5_bestOfWorst (wl yX5_bestOfWorst cX5_bestOfWorst 9 (some .int)) ({ frames := 8, cells := 0, slots := 0, locals := 490 }) (tp D cy ld t [] [.ref a0, .int p1, .int p2, .int p3] (fun H => True)) (ti D cy ld t [] (fun r H => (-2) ≤ r.toInt ∧ r.toInt ≤ 9) (tk_w t [(20, 4, 4), (10, 4, 4), (20, 0, 0), (12, 0, 0), (9, 0, 0)])) 0 0 (tk_w t [(20, 4, 4), (10, 4, 4), (20, 0, 0), (12, 0, 0), (9, 0, 0)]) := by sorry
theorem dX5_worstOfBest_0 : decode cX5_worstOfBest 0 = .ok (.iconst 2, 1) := sorry
theorem dX5_worstOfBest_1 : decode cX5_worstOfBest 1 = .ok (.istore 4, 2) := sorry
theorem dX5_worstOfBest_3 : decode cX5_worstOfBest 3 = .ok (.iconst (-1), 1) := sorry
theorem dX5_worstOfBest_4 : decode cX5_worstOfBest 4 = .ok (.istore 5, 2) := sorry
theorem dX5_worstOfBest_6 : decode cX5_worstOfBest 6 = .ok (.iconst 0, 1) := sorry
theorem dX5_worstOfBest_7 : decode cX5_worstOfBest 7 = .ok (.istore 6, 2) := sorry
theorem dX5_worstOfBest_9 : decode cX5_worstOfBest 9 = .ok (.iload 6, 2) := sorry
theorem dX5_worstOfBest_11 : decode cX5_worstOfBest 11 = .ok (.aload_n 0, 1) := sorry
theorem dX5_worstOfBest_12 : decode cX5_worstOfBest 12 = .ok (.getfield 34, 3) := sorry
theorem dX5_worstOfBest_15 : decode cX5_worstOfBest 15 = .ok (.getfield 79, 3) := sorry
theorem dX5_worstOfBest_96 : decode cX5_worstOfBest 96 = .ok (.iload_n 3, 1) := sorry
theorem dX5_worstOfBest_97 : decode cX5_worstOfBest 97 = .ok (.ifCond .eq 8, 3) := sorry
theorem dX5_worstOfBest_105 : decode cX5_worstOfBest 105 = .ok (.iload 4, 2) := sorry
theorem dX5_worstOfBest_107 : decode cX5_worstOfBest 107 = .ok (.ireturn, 1) := sorry
theorem dX5_worstOfBest_100 : decode cX5_worstOfBest 100 = .ok (.iload 5, 2) := sorry
theorem dX5_worstOfBest_102 : decode cX5_worstOfBest 102 = .ok (.goto 5, 3) := sorry
theorem dX5_worstOfBest_18 : decode cX5_worstOfBest 18 = .ok (.if_icmp .ge 78, 3) := sorry
theorem dX5_worstOfBest_21 : decode cX5_worstOfBest 21 = .ok (.iload 4, 2) := sorry
theorem dX5_worstOfBest_23 : decode cX5_worstOfBest 23 = .ok (.iconst (-1), 1) := sorry
theorem dX5_worstOfBest_24 : decode cX5_worstOfBest 24 = .ok (.if_icmp .le 72, 3) := sorry
theorem dX5_worstOfBest_27 : decode cX5_worstOfBest 27 = .ok (.iconst (-1), 1) := sorry
theorem dX5_worstOfBest_28 : decode cX5_worstOfBest 28 = .ok (.istore 7, 2) := sorry
theorem dX5_worstOfBest_30 : decode cX5_worstOfBest 30 = .ok (.iconst 0, 1) := sorry
theorem dX5_worstOfBest_31 : decode cX5_worstOfBest 31 = .ok (.istore 8, 2) := sorry
theorem dX5_worstOfBest_33 : decode cX5_worstOfBest 33 = .ok (.iload 8, 2) := sorry
theorem dX5_worstOfBest_35 : decode cX5_worstOfBest 35 = .ok (.aload_n 0, 1) := sorry
theorem dX5_worstOfBest_36 : decode cX5_worstOfBest 36 = .ok (.getfield 34, 3) := sorry
theorem dX5_worstOfBest_39 : decode cX5_worstOfBest 39 = .ok (.getfield 79, 3) := sorry
theorem dX5_worstOfBest_75 : decode cX5_worstOfBest 75 = .ok (.iload 7, 2) := sorry
theorem dX5_worstOfBest_77 : decode cX5_worstOfBest 77 = .ok (.iload 4, 2) := sorry
theorem dX5_worstOfBest_90 : decode cX5_worstOfBest 90 = .ok (.iinc 6 1, 3) := sorry
theorem dX5_worstOfBest_93 : decode cX5_worstOfBest 93 = .ok (.goto (-84), 3) := sorry
theorem dX5_worstOfBest_79 : decode cX5_worstOfBest 79 = .ok (.if_icmp .ge 11, 3) := sorry
theorem dX5_worstOfBest_82 : decode cX5_worstOfBest 82 = .ok (.iload 7, 2) := sorry
theorem dX5_worstOfBest_84 : decode cX5_worstOfBest 84 = .ok (.istore 4, 2) := sorry
theorem dX5_worstOfBest_86 : decode cX5_worstOfBest 86 = .ok (.iload 6, 2) := sorry
theorem dX5_worstOfBest_88 : decode cX5_worstOfBest 88 = .ok (.istore 5, 2) := sorry
theorem dX5_worstOfBest_42 : decode cX5_worstOfBest 42 = .ok (.if_icmp .ge 33, 3) := sorry
theorem dX5_worstOfBest_45 : decode cX5_worstOfBest 45 = .ok (.iload 7, 2) := sorry
theorem dX5_worstOfBest_47 : decode cX5_worstOfBest 47 = .ok (.iload 4, 2) := sorry
theorem dX5_worstOfBest_49 : decode cX5_worstOfBest 49 = .ok (.if_icmp .ge 26, 3) := sorry
theorem dX5_worstOfBest_52 : decode cX5_worstOfBest 52 = .ok (.iload 7, 2) := sorry
theorem dX5_worstOfBest_54 : decode cX5_worstOfBest 54 = .ok (.aload_n 0, 1) := sorry
theorem dX5_worstOfBest_55 : decode cX5_worstOfBest 55 = .ok (.iload_n 1, 1) := sorry
theorem dX5_worstOfBest_56 : decode cX5_worstOfBest 56 = .ok (.iload_n 2, 1) := sorry
theorem dX5_worstOfBest_57 : decode cX5_worstOfBest 57 = .ok (.iload 8, 2) := sorry
theorem dX5_worstOfBest_59 : decode cX5_worstOfBest 59 = .ok (.iload 6, 2) := sorry
theorem dX5_worstOfBest_61 : decode cX5_worstOfBest 61 = .ok (.invokevirtual 96, 3) := sorry
theorem dX5_worstOfBest_64 : decode cX5_worstOfBest 64 = .ok (.invokestatic 88, 3) := sorry
theorem dX5_worstOfBest_67 : decode cX5_worstOfBest 67 = .ok (.istore 7, 2) := sorry
theorem dX5_worstOfBest_69 : decode cX5_worstOfBest 69 = .ok (.iinc 8 1, 3) := sorry
theorem dX5_worstOfBest_72 : decode cX5_worstOfBest 72 = .ok (.goto (-39), 3) := sorry
set_option maxHeartbeats 4000000 in
set_option maxRecDepth 100000 in
theorem k_X5_worstOfBest (l : Launch) (D : va_G) (cy : Nat → ClassId) (ld : Nat → Nat) (t : tk_T) (a0 : Nat) (p1 : Int32) (p2 : Int32) (p3 : Int32) (ht_a0 : t a0 = (6, 0, 0)) (hp_0 : 0 ≤ p1.toInt) (hp_1 : p1.toInt ≤ 7) (hp_2 : 0 ≤ p2.toInt) (hp_3 : p2.toInt ≤ 7) (hp_4 : 0 ≤ p3.toInt) (hp_5 : p3.toInt ≤ 1) : Met l yX5_worstOfBest (wl yX5_worstOfBest cX5_worstOfBest 9 (some .int)) ({ frames := 8, cells := 0, slots := 0, locals := 490 }) (tp D cy ld t [] [.ref a0, .int p1, .int p2, .int p3] (fun H => True)) (ti D cy ld t [] (fun r H => (-1) ≤ r.toInt ∧ r.toInt ≤ 9) (tk_w t [(20, 4, 4), (10, 4, 4), (20, 0, 0), (12, 0, 0), (9, 0, 0)])) 0 0 (tk_w t [(20, 4, 4), (10, 4, 4), (20, 0, 0), (12, 0, 0), (9, 0, 0)]) := by sorry
theorem dX8_howLulls_0 : decode cX8_howLulls 0 = .ok (.aload_n 0, 1) := sorry
theorem dX8_howLulls_1 : decode cX8_howLulls 1 = .ok (.aload_n 1, 1) := sorry
theorem dX8_howLulls_2 : decode cX8_howLulls 2 = .ok (.iload_n 2, 1) := sorry
theorem dX8_howLulls_3 : decode cX8_howLulls 3 = .ok (.invokevirtual 22, 3) := sorry
theorem dX8_howLulls_6 : decode cX8_howLulls 6 = .ok (.aload_n 0, 1) := sorry
theorem dX8_howLulls_7 : decode cX8_howLulls 7 = .ok (.invokevirtual 26, 3) := sorry
theorem dX8_howLulls_10 : decode cX8_howLulls 10 = .ok (.ireturn, 1) := sorry
set_option maxHeartbeats 4000000 in
set_option maxRecDepth 100000 in
theorem k_X8_howLulls (l : Launch) (D : va_G) (cy : Nat → ClassId) (ld : Nat → Nat) (t : tk_T) (rg1 : Nat) (a0 : Nat) (a1 : Nat) (p2 : Int32) (g0 : Int32) (ht_a0 : t a0 = (9, 0, 0)) (ht_a1 : t a1 = (10, 0, rg1)) (hp_0 : 0 ≤ p2.toInt) (hp_1 : p2.toInt ≤ 9) (hp_2 : 0 ≤ g0.toInt) (hp_3 : g0.toInt ≤ 7) : Met l yX8_howLulls (wl yX8_howLulls cX8_howLulls 3 (some .int)) ({ frames := 6, cells := 0, slots := 0, locals := 350 }) (tp D cy ld t [] [.ref a0, .ref a1, .int p2] (fun H => tk_f D H a1 9 5 (.int g0))) (ti D cy ld t [] (fun r H => True) (tk_w t [(20, 0, 0), (12, 0, 0), (9, 0, 0)])) 0 0 (tk_w t [(20, 0, 0), (12, 0, 0), (9, 0, 0)]) := by sorry
theorem dX5_strongestLull_0 : decode cX5_strongestLull 0 = .ok (.iconst (-1), 1) := sorry
theorem dX5_strongestLull_1 : decode cX5_strongestLull 1 = .ok (.istore_n 1, 1) := sorry
theorem dX5_strongestLull_2 : decode cX5_strongestLull 2 = .ok (.iconst (-1), 1) := sorry
theorem dX5_strongestLull_3 : decode cX5_strongestLull 3 = .ok (.istore_n 2, 1) := sorry
theorem dX5_strongestLull_4 : decode cX5_strongestLull 4 = .ok (.iconst 0, 1) := sorry
theorem dX5_strongestLull_5 : decode cX5_strongestLull 5 = .ok (.istore_n 3, 1) := sorry
theorem dX5_strongestLull_6 : decode cX5_strongestLull 6 = .ok (.iload_n 3, 1) := sorry
theorem dX5_strongestLull_7 : decode cX5_strongestLull 7 = .ok (.aload_n 0, 1) := sorry
theorem dX5_strongestLull_8 : decode cX5_strongestLull 8 = .ok (.getfield 34, 3) := sorry
theorem dX5_strongestLull_11 : decode cX5_strongestLull 11 = .ok (.getfield 79, 3) := sorry
theorem dX5_strongestLull_14 : decode cX5_strongestLull 14 = .ok (.if_icmp .ge 49, 3) := sorry
theorem dX5_strongestLull_63 : decode cX5_strongestLull 63 = .ok (.iload_n 1, 1) := sorry
theorem dX5_strongestLull_64 : decode cX5_strongestLull 64 = .ok (.ireturn, 1) := sorry
theorem dX5_strongestLull_17 : decode cX5_strongestLull 17 = .ok (.aload_n 0, 1) := sorry
theorem dX5_strongestLull_18 : decode cX5_strongestLull 18 = .ok (.getfield 38, 3) := sorry
theorem dX5_strongestLull_21 : decode cX5_strongestLull 21 = .ok (.aload_n 0, 1) := sorry
theorem dX5_strongestLull_22 : decode cX5_strongestLull 22 = .ok (.getfield 18, 3) := sorry
theorem dX5_strongestLull_25 : decode cX5_strongestLull 25 = .ok (.iload_n 3, 1) := sorry
theorem dX5_strongestLull_26 : decode cX5_strongestLull 26 = .ok (.invokevirtual 82, 3) := sorry
theorem dX5_strongestLull_57 : decode cX5_strongestLull 57 = .ok (.iinc 3 1, 3) := sorry
theorem dX5_strongestLull_60 : decode cX5_strongestLull 60 = .ok (.goto (-54), 3) := sorry
theorem dX5_strongestLull_29 : decode cX5_strongestLull 29 = .ok (.ifCond .ne 28, 3) := sorry
theorem dX5_strongestLull_32 : decode cX5_strongestLull 32 = .ok (.aload_n 0, 1) := sorry
theorem dX5_strongestLull_33 : decode cX5_strongestLull 33 = .ok (.getfield 38, 3) := sorry
theorem dX5_strongestLull_36 : decode cX5_strongestLull 36 = .ok (.aload_n 0, 1) := sorry
theorem dX5_strongestLull_37 : decode cX5_strongestLull 37 = .ok (.getfield 18, 3) := sorry
theorem dX5_strongestLull_40 : decode cX5_strongestLull 40 = .ok (.iload_n 3, 1) := sorry
theorem dX5_strongestLull_41 : decode cX5_strongestLull 41 = .ok (.invokevirtual 124, 3) := sorry
theorem dX5_strongestLull_44 : decode cX5_strongestLull 44 = .ok (.istore 4, 2) := sorry
theorem dX5_strongestLull_46 : decode cX5_strongestLull 46 = .ok (.iload 4, 2) := sorry
theorem dX5_strongestLull_48 : decode cX5_strongestLull 48 = .ok (.iload_n 2, 1) := sorry
theorem dX5_strongestLull_49 : decode cX5_strongestLull 49 = .ok (.if_icmp .le 8, 3) := sorry
theorem dX5_strongestLull_52 : decode cX5_strongestLull 52 = .ok (.iload 4, 2) := sorry
theorem dX5_strongestLull_54 : decode cX5_strongestLull 54 = .ok (.istore_n 2, 1) := sorry
theorem dX5_strongestLull_55 : decode cX5_strongestLull 55 = .ok (.iload_n 3, 1) := sorry
theorem dX5_strongestLull_56 : decode cX5_strongestLull 56 = .ok (.istore_n 1, 1) := sorry
set_option maxHeartbeats 4000000 in
set_option maxRecDepth 100000 in
theorem k_X5_strongestLull (l : Launch) (D : va_G) (cy : Nat → ClassId) (ld : Nat → Nat) (t : tk_T) (a0 : Nat) (g0 : Int32) (ht_a0 : t a0 = (6, 0, 0)) (ht_ld21 : t (ld 21) = (10, 0, 4)) (hp_0 : 0 ≤ g0.toInt) (hp_1 : g0.toInt ≤ 7) : Met l yX5_strongestLull (wl yX5_strongestLull cX5_strongestLull 5 (some .int)) ({ frames := 7, cells := 0, slots := 0, locals := 420 }) (tp D cy ld t [] [.ref a0] (fun H => tk_f D H (ld 21) 9 5 (.int g0))) (ti D cy ld t [] (fun r H => (-1) ≤ r.toInt ∧ r.toInt ≤ 9) (tk_w t [(20, 0, 0), (12, 0, 0), (9, 0, 0)])) 0 0 (tk_w t [(20, 0, 0), (12, 0, 0), (9, 0, 0)]) := by sorry
end

section
theorem dX5_resultByRule_0 : decode cX5_resultByRule 0 = .ok (.aload_n 0, 1) := sorry
theorem dX5_resultByRule_1 : decode cX5_resultByRule 1 = .ok (.iload_n 1, 1) := sorry
theorem dX5_resultByRule_2 : decode cX5_resultByRule 2 = .ok (.iload_n 2, 1) := sorry
theorem dX5_resultByRule_3 : decode cX5_resultByRule 3 = .ok (.invokevirtual 110, 3) := sorry
theorem dX5_resultByRule_6 : decode cX5_resultByRule 6 = .ok (.ifCond .ne 10, 3) := sorry
theorem dX5_resultByRule_16 : decode cX5_resultByRule 16 = .ok (.iconst 0, 1) := sorry
theorem dX5_resultByRule_17 : decode cX5_resultByRule 17 = .ok (.istore_n 3, 1) := sorry
theorem dX5_resultByRule_18 : decode cX5_resultByRule 18 = .ok (.iload_n 3, 1) := sorry
theorem dX5_resultByRule_19 : decode cX5_resultByRule 19 = .ok (.bipush 24, 2) := sorry
theorem dX5_resultByRule_21 : decode cX5_resultByRule 21 = .ok (.if_icmp .ge 69, 3) := sorry
theorem dX5_resultByRule_90 : decode cX5_resultByRule 90 = .ok (.iconst 0, 1) := sorry
theorem dX5_resultByRule_91 : decode cX5_resultByRule 91 = .ok (.ireturn, 1) := sorry
theorem dX5_resultByRule_24 : decode cX5_resultByRule 24 = .ok (.aload_n 0, 1) := sorry
theorem dX5_resultByRule_25 : decode cX5_resultByRule 25 = .ok (.getfield 18, 3) := sorry
theorem dX5_resultByRule_28 : decode cX5_resultByRule 28 = .ok (.invokevirtual 75, 3) := sorry
theorem dX5_resultByRule_31 : decode cX5_resultByRule 31 = .ok (.ifCond .eq 59, 3) := sorry
theorem dX5_resultByRule_34 : decode cX5_resultByRule 34 = .ok (.aload_n 0, 1) := sorry
theorem dX5_resultByRule_35 : decode cX5_resultByRule 35 = .ok (.getfield 18, 3) := sorry
theorem dX5_resultByRule_38 : decode cX5_resultByRule 38 = .ok (.getfield 117, 3) := sorry
theorem dX5_resultByRule_41 : decode cX5_resultByRule 41 = .ok (.istore 4, 2) := sorry
theorem dX5_resultByRule_43 : decode cX5_resultByRule 43 = .ok (.aload_n 0, 1) := sorry
theorem dX5_resultByRule_44 : decode cX5_resultByRule 44 = .ok (.invokevirtual 121, 3) := sorry
theorem dX5_resultByRule_47 : decode cX5_resultByRule 47 = .ok (.istore 5, 2) := sorry
theorem dX5_resultByRule_49 : decode cX5_resultByRule 49 = .ok (.iload 5, 2) := sorry
theorem dX5_resultByRule_51 : decode cX5_resultByRule 51 = .ok (.iconst (-1), 1) := sorry
theorem dX5_resultByRule_52 : decode cX5_resultByRule 52 = .ok (.if_icmp .ne 5, 3) := sorry
theorem dX5_resultByRule_57 : decode cX5_resultByRule 57 = .ok (.aload_n 0, 1) := sorry
theorem dX5_resultByRule_58 : decode cX5_resultByRule 58 = .ok (.getfield 38, 3) := sorry
theorem dX5_resultByRule_61 : decode cX5_resultByRule 61 = .ok (.aload_n 0, 1) := sorry
theorem dX5_resultByRule_62 : decode cX5_resultByRule 62 = .ok (.getfield 18, 3) := sorry
theorem dX5_resultByRule_65 : decode cX5_resultByRule 65 = .ok (.iload 5, 2) := sorry
theorem dX5_resultByRule_67 : decode cX5_resultByRule 67 = .ok (.invokevirtual 92, 3) := sorry
theorem dX5_resultByRule_70 : decode cX5_resultByRule 70 = .ok (.ifCond .ne 14, 3) := sorry
theorem dX5_resultByRule_84 : decode cX5_resultByRule 84 = .ok (.iinc 3 1, 3) := sorry
theorem dX5_resultByRule_87 : decode cX5_resultByRule 87 = .ok (.goto (-69), 3) := sorry
theorem dX5_resultByRule_73 : decode cX5_resultByRule 73 = .ok (.iload 4, 2) := sorry
theorem dX5_resultByRule_75 : decode cX5_resultByRule 75 = .ok (.ifCond .eq 7, 3) := sorry
theorem dX5_resultByRule_82 : decode cX5_resultByRule 82 = .ok (.iconst 1, 1) := sorry
theorem dX5_resultByRule_83 : decode cX5_resultByRule 83 = .ok (.ireturn, 1) := sorry
theorem dX5_resultByRule_78 : decode cX5_resultByRule 78 = .ok (.iconst (-1), 1) := sorry
theorem dX5_resultByRule_79 : decode cX5_resultByRule 79 = .ok (.goto 4, 3) := sorry
theorem dX5_resultByRule_55 : decode cX5_resultByRule 55 = .ok (.iconst 0, 1) := sorry
theorem dX5_resultByRule_56 : decode cX5_resultByRule 56 = .ok (.ireturn, 1) := sorry
theorem dX5_resultByRule_9 : decode cX5_resultByRule 9 = .ok (.aload_n 0, 1) := sorry
theorem dX5_resultByRule_10 : decode cX5_resultByRule 10 = .ok (.iload_n 1, 1) := sorry
theorem dX5_resultByRule_11 : decode cX5_resultByRule 11 = .ok (.iload_n 2, 1) := sorry
theorem dX5_resultByRule_12 : decode cX5_resultByRule 12 = .ok (.invokevirtual 114, 3) := sorry
theorem dX5_resultByRule_15 : decode cX5_resultByRule 15 = .ok (.ireturn, 1) := sorry
set_option maxHeartbeats 4000000 in
set_option maxRecDepth 100000 in
theorem k_X5_resultByRule (l : Launch) (D : va_G) (cy : Nat → ClassId) (ld : Nat → Nat) (t : tk_T) (a0 : Nat) (p1 : Int32) (p2 : Int32) (ht_a0 : t a0 = (6, 0, 0)) (hp_0 : 0 ≤ p1.toInt) (hp_1 : p1.toInt ≤ 7) (hp_2 : 0 ≤ p2.toInt) (hp_3 : p2.toInt ≤ 7) : Met l yX5_resultByRule (wl yX5_resultByRule cX5_resultByRule 6 (some .int)) ({ frames := 8, cells := 0, slots := 0, locals := 490 }) (tp D cy ld t [] [.ref a0, .int p1, .int p2] (fun H => True)) (ti D cy ld t [] (fun r H => (-1) ≤ r.toInt ∧ r.toInt ≤ 1) (tk_w t [(20, 4, 4), (10, 4, 4), (20, 0, 0), (12, 0, 0), (9, 0, 0)])) 0 0 (tk_w t [(20, 4, 4), (10, 4, 4), (20, 0, 0), (12, 0, 0), (9, 0, 0)]) := by sorry
theorem dX5_chooseFrom_0 : decode cX5_chooseFrom 0 = .ok (.iload_n 1, 1) := sorry
theorem dX5_chooseFrom_1 : decode cX5_chooseFrom 1 = .ok (.aload_n 0, 1) := sorry
theorem dX5_chooseFrom_2 : decode cX5_chooseFrom 2 = .ok (.getfield 34, 3) := sorry
theorem dX5_chooseFrom_5 : decode cX5_chooseFrom 5 = .ok (.getfield 127, 3) := sorry
theorem dX5_chooseFrom_8 : decode cX5_chooseFrom 8 = .ok (.if_icmp .lt 55, 3) := sorry
theorem dX5_chooseFrom_11 : decode cX5_chooseFrom 11 = .ok (.iload_n 3, 1) := sorry
theorem dX5_chooseFrom_12 : decode cX5_chooseFrom 12 = .ok (.aload_n 0, 1) := sorry
theorem dX5_chooseFrom_13 : decode cX5_chooseFrom 13 = .ok (.getfield 136, 3) := sorry
theorem dX5_chooseFrom_16 : decode cX5_chooseFrom 16 = .ok (.if_icmp .gt 20, 3) := sorry
theorem dX5_chooseFrom_36 : decode cX5_chooseFrom 36 = .ok (.aload_n 0, 1) := sorry
theorem dX5_chooseFrom_37 : decode cX5_chooseFrom 37 = .ok (.iload_n 3, 1) := sorry
theorem dX5_chooseFrom_38 : decode cX5_chooseFrom 38 = .ok (.putfield 136, 3) := sorry
theorem dX5_chooseFrom_41 : decode cX5_chooseFrom 41 = .ok (.aload_n 0, 1) := sorry
theorem dX5_chooseFrom_42 : decode cX5_chooseFrom 42 = .ok (.iload 4, 2) := sorry
theorem dX5_chooseFrom_44 : decode cX5_chooseFrom 44 = .ok (.putfield 139, 3) := sorry
theorem dX5_chooseFrom_47 : decode cX5_chooseFrom 47 = .ok (.aload_n 0, 1) := sorry
theorem dX5_chooseFrom_48 : decode cX5_chooseFrom 48 = .ok (.getfield 27, 3) := sorry
theorem dX5_chooseFrom_51 : decode cX5_chooseFrom 51 = .ok (.iconst 0, 1) := sorry
theorem dX5_chooseFrom_52 : decode cX5_chooseFrom 52 = .ok (.aload_n 0, 1) := sorry
theorem dX5_chooseFrom_53 : decode cX5_chooseFrom 53 = .ok (.getfield 31, 3) := sorry
theorem dX5_chooseFrom_56 : decode cX5_chooseFrom 56 = .ok (.iconst 0, 1) := sorry
theorem dX5_chooseFrom_57 : decode cX5_chooseFrom 57 = .ok (.bipush 8, 2) := sorry
theorem dX5_chooseFrom_59 : decode cX5_chooseFrom 59 = .ok (.invokestatic 146, 3) := sorry
theorem dX5_chooseFrom_62 : decode cX5_chooseFrom 62 = .ok (.return_, 1) := sorry
theorem dX5_chooseFrom_19 : decode cX5_chooseFrom 19 = .ok (.iload_n 3, 1) := sorry
theorem dX5_chooseFrom_20 : decode cX5_chooseFrom 20 = .ok (.aload_n 0, 1) := sorry
theorem dX5_chooseFrom_21 : decode cX5_chooseFrom 21 = .ok (.getfield 136, 3) := sorry
theorem dX5_chooseFrom_24 : decode cX5_chooseFrom 24 = .ok (.if_icmp .ne 38, 3) := sorry
theorem dX5_chooseFrom_27 : decode cX5_chooseFrom 27 = .ok (.iload 4, 2) := sorry
theorem dX5_chooseFrom_29 : decode cX5_chooseFrom 29 = .ok (.aload_n 0, 1) := sorry
theorem dX5_chooseFrom_30 : decode cX5_chooseFrom 30 = .ok (.getfield 139, 3) := sorry
theorem dX5_chooseFrom_33 : decode cX5_chooseFrom 33 = .ok (.if_icmp .ge 29, 3) := sorry
set_option maxHeartbeats 4000000 in
set_option maxRecDepth 100000 in
theorem k_X5_chooseFrom_8 (l : Launch) (D : va_G) (cy : Nat → ClassId) (ld : Nat → Nat) (t : tk_T) (a0 : Nat) (p2 : Int32) (p3 : Int32) (p4 : Int32) (ht_a0 : t a0 = (6, 0, 0)) : Met l yX5_chooseFrom (wl yX5_chooseFrom cX5_chooseFrom 7 none) ({ frames := 4, cells := 0, slots := 0, locals := 210 }) (tp D cy ld t [] [.ref a0, .int 8, .int p2, .int p3, .int p4] (fun H => True)) (tv D cy ld t [] (fun H => True) (tk_w t [(6, 0, 0), (20, 0, 0)])) 0 0 (tk_w t [(6, 0, 0), (20, 0, 0)]) := by sorry
theorem dX5_chooseFrom_63 : decode cX5_chooseFrom 63 = .ok (.aload_n 0, 1) := sorry
theorem dX5_chooseFrom_64 : decode cX5_chooseFrom 64 = .ok (.getfield 34, 3) := sorry
theorem dX5_chooseFrom_67 : decode cX5_chooseFrom 67 = .ok (.getfield 130, 3) := sorry
theorem dX5_chooseFrom_70 : decode cX5_chooseFrom 70 = .ok (.iload_n 1, 1) := sorry
theorem dX5_chooseFrom_71 : decode cX5_chooseFrom 71 = .ok (.iaload, 1) := sorry
theorem dX5_chooseFrom_176 : decode cX5_chooseFrom 176 = .ok (.aload_n 0, 1) := sorry
theorem dX5_chooseFrom_177 : decode cX5_chooseFrom 177 = .ok (.getfield 27, 3) := sorry
theorem dX5_chooseFrom_180 : decode cX5_chooseFrom 180 = .ok (.iload_n 1, 1) := sorry
theorem dX5_chooseFrom_181 : decode cX5_chooseFrom 181 = .ok (.bipush 100, 2) := sorry
theorem dX5_chooseFrom_183 : decode cX5_chooseFrom 183 = .ok (.iastore, 1) := sorry
theorem dX5_chooseFrom_184 : decode cX5_chooseFrom 184 = .ok (.aload_n 0, 1) := sorry
theorem dX5_chooseFrom_185 : decode cX5_chooseFrom 185 = .ok (.iload_n 1, 1) := sorry
theorem dX5_chooseFrom_186 : decode cX5_chooseFrom 186 = .ok (.iconst 1, 1) := sorry
theorem dX5_chooseFrom_187 : decode cX5_chooseFrom 187 = .ok (.iadd, 1) := sorry
theorem dX5_chooseFrom_188 : decode cX5_chooseFrom 188 = .ok (.iload_n 2, 1) := sorry
theorem dX5_chooseFrom_189 : decode cX5_chooseFrom 189 = .ok (.iload_n 3, 1) := sorry
theorem dX5_chooseFrom_190 : decode cX5_chooseFrom 190 = .ok (.iload 4, 2) := sorry
theorem dX5_chooseFrom_192 : decode cX5_chooseFrom 192 = .ok (.invokevirtual 142, 3) := sorry
theorem dX5_chooseFrom_195 : decode cX5_chooseFrom 195 = .ok (.return_, 1) := sorry
theorem dX5_chooseFrom_72 : decode cX5_chooseFrom 72 = .ok (.ifCond .ne 104, 3) := sorry
theorem dX5_chooseFrom_75 : decode cX5_chooseFrom 75 = .ok (.iconst 0, 1) := sorry
theorem dX5_chooseFrom_76 : decode cX5_chooseFrom 76 = .ok (.istore 5, 2) := sorry
theorem dX5_chooseFrom_78 : decode cX5_chooseFrom 78 = .ok (.iload 5, 2) := sorry
theorem dX5_chooseFrom_80 : decode cX5_chooseFrom 80 = .ok (.aload_n 0, 1) := sorry
theorem dX5_chooseFrom_81 : decode cX5_chooseFrom 81 = .ok (.getfield 34, 3) := sorry
theorem dX5_chooseFrom_84 : decode cX5_chooseFrom 84 = .ok (.getfield 127, 3) := sorry
theorem dX5_chooseFrom_87 : decode cX5_chooseFrom 87 = .ok (.if_icmp .ge 89, 3) := sorry
theorem dX5_chooseFrom_90 : decode cX5_chooseFrom 90 = .ok (.aload_n 0, 1) := sorry
theorem dX5_chooseFrom_91 : decode cX5_chooseFrom 91 = .ok (.getfield 34, 3) := sorry
theorem dX5_chooseFrom_94 : decode cX5_chooseFrom 94 = .ok (.getfield 130, 3) := sorry
theorem dX5_chooseFrom_97 : decode cX5_chooseFrom 97 = .ok (.iload 5, 2) := sorry
theorem dX5_chooseFrom_99 : decode cX5_chooseFrom 99 = .ok (.iaload, 1) := sorry
theorem dX5_chooseFrom_100 : decode cX5_chooseFrom 100 = .ok (.iconst 1, 1) := sorry
theorem dX5_chooseFrom_170 : decode cX5_chooseFrom 170 = .ok (.iinc 5 1, 3) := sorry
theorem dX5_chooseFrom_173 : decode cX5_chooseFrom 173 = .ok (.goto (-95), 3) := sorry
theorem dX5_chooseFrom_101 : decode cX5_chooseFrom 101 = .ok (.if_icmp .ne 69, 3) := sorry
theorem dX5_chooseFrom_104 : decode cX5_chooseFrom 104 = .ok (.iload_n 2, 1) := sorry
theorem dX5_chooseFrom_105 : decode cX5_chooseFrom 105 = .ok (.iload 5, 2) := sorry
theorem dX5_chooseFrom_107 : decode cX5_chooseFrom 107 = .ok (.ishr, 1) := sorry
theorem dX5_chooseFrom_108 : decode cX5_chooseFrom 108 = .ok (.iconst 1, 1) := sorry
theorem dX5_chooseFrom_109 : decode cX5_chooseFrom 109 = .ok (.iand, 1) := sorry
theorem dX5_chooseFrom_110 : decode cX5_chooseFrom 110 = .ok (.ifCond .ne 60, 3) := sorry
theorem dX5_chooseFrom_113 : decode cX5_chooseFrom 113 = .ok (.aload_n 0, 1) := sorry
theorem dX5_chooseFrom_114 : decode cX5_chooseFrom 114 = .ok (.getfield 24, 3) := sorry
theorem dX5_chooseFrom_117 : decode cX5_chooseFrom 117 = .ok (.iload_n 1, 1) := sorry
theorem dX5_chooseFrom_118 : decode cX5_chooseFrom 118 = .ok (.aaload, 1) := sorry
theorem dX5_chooseFrom_119 : decode cX5_chooseFrom 119 = .ok (.iload 5, 2) := sorry
theorem dX5_chooseFrom_121 : decode cX5_chooseFrom 121 = .ok (.iaload, 1) := sorry
theorem dX5_chooseFrom_122 : decode cX5_chooseFrom 122 = .ok (.istore 6, 2) := sorry
theorem dX5_chooseFrom_124 : decode cX5_chooseFrom 124 = .ok (.aload_n 0, 1) := sorry
theorem dX5_chooseFrom_125 : decode cX5_chooseFrom 125 = .ok (.getfield 27, 3) := sorry
theorem dX5_chooseFrom_128 : decode cX5_chooseFrom 128 = .ok (.iload_n 1, 1) := sorry
theorem dX5_chooseFrom_129 : decode cX5_chooseFrom 129 = .ok (.iload 5, 2) := sorry
theorem dX5_chooseFrom_131 : decode cX5_chooseFrom 131 = .ok (.iastore, 1) := sorry
theorem dX5_chooseFrom_132 : decode cX5_chooseFrom 132 = .ok (.aload_n 0, 1) := sorry
theorem dX5_chooseFrom_133 : decode cX5_chooseFrom 133 = .ok (.iload_n 1, 1) := sorry
theorem dX5_chooseFrom_134 : decode cX5_chooseFrom 134 = .ok (.iconst 1, 1) := sorry
theorem dX5_chooseFrom_135 : decode cX5_chooseFrom 135 = .ok (.iadd, 1) := sorry
theorem dX5_chooseFrom_136 : decode cX5_chooseFrom 136 = .ok (.iload_n 2, 1) := sorry
theorem dX5_chooseFrom_137 : decode cX5_chooseFrom 137 = .ok (.iconst 1, 1) := sorry
theorem dX5_chooseFrom_138 : decode cX5_chooseFrom 138 = .ok (.iload 5, 2) := sorry
theorem dX5_chooseFrom_140 : decode cX5_chooseFrom 140 = .ok (.ishl, 1) := sorry
theorem dX5_chooseFrom_141 : decode cX5_chooseFrom 141 = .ok (.ior, 1) := sorry
theorem dX5_chooseFrom_142 : decode cX5_chooseFrom 142 = .ok (.iload_n 3, 1) := sorry
theorem dX5_chooseFrom_143 : decode cX5_chooseFrom 143 = .ok (.iload 6, 2) := sorry
theorem dX5_chooseFrom_153 : decode cX5_chooseFrom 153 = .ok (.iadd, 1) := sorry
theorem dX5_chooseFrom_154 : decode cX5_chooseFrom 154 = .ok (.iload 4, 2) := sorry
theorem dX5_chooseFrom_156 : decode cX5_chooseFrom 156 = .ok (.iload 6, 2) := sorry
theorem dX5_chooseFrom_166 : decode cX5_chooseFrom 166 = .ok (.iadd, 1) := sorry
theorem dX5_chooseFrom_167 : decode cX5_chooseFrom 167 = .ok (.invokevirtual 142, 3) := sorry
theorem dX5_chooseFrom_158 : decode cX5_chooseFrom 158 = .ok (.ifCond .ge 7, 3) := sorry
theorem dX5_chooseFrom_165 : decode cX5_chooseFrom 165 = .ok (.iconst 0, 1) := sorry
theorem dX5_chooseFrom_161 : decode cX5_chooseFrom 161 = .ok (.iconst 1, 1) := sorry
theorem dX5_chooseFrom_162 : decode cX5_chooseFrom 162 = .ok (.goto 4, 3) := sorry
theorem dX5_chooseFrom_145 : decode cX5_chooseFrom 145 = .ok (.ifCond .le 7, 3) := sorry
theorem dX5_chooseFrom_152 : decode cX5_chooseFrom 152 = .ok (.iconst 0, 1) := sorry
theorem dX5_chooseFrom_148 : decode cX5_chooseFrom 148 = .ok (.iconst 1, 1) := sorry
theorem dX5_chooseFrom_149 : decode cX5_chooseFrom 149 = .ok (.goto 4, 3) := sorry
set_option maxHeartbeats 4000000 in
set_option maxRecDepth 100000 in
theorem k_X5_chooseFrom_7 (l : Launch) (D : va_G) (cy : Nat → ClassId) (ld : Nat → Nat) (t : tk_T) (a0 : Nat) (p2 : Int32) (p3 : Int32) (p4 : Int32) (ht_a0 : t a0 = (6, 0, 0)) : Met l yX5_chooseFrom (wl yX5_chooseFrom cX5_chooseFrom 7 none) ({ frames := 5, cells := 0, slots := 0, locals := 280 }) (tp D cy ld t [] [.ref a0, .int 7, .int p2, .int p3, .int p4] (fun H => True)) (tv D cy ld t [] (fun H => True) (tk_w t [(20, 0, 0), (6, 0, 0)])) 0 0 (tk_w t [(20, 0, 0), (6, 0, 0)]) := by sorry
set_option maxHeartbeats 4000000 in
set_option maxRecDepth 100000 in
theorem k_X5_chooseFrom_6 (l : Launch) (D : va_G) (cy : Nat → ClassId) (ld : Nat → Nat) (t : tk_T) (a0 : Nat) (p2 : Int32) (p3 : Int32) (p4 : Int32) (ht_a0 : t a0 = (6, 0, 0)) : Met l yX5_chooseFrom (wl yX5_chooseFrom cX5_chooseFrom 7 none) ({ frames := 6, cells := 0, slots := 0, locals := 350 }) (tp D cy ld t [] [.ref a0, .int 6, .int p2, .int p3, .int p4] (fun H => True)) (tv D cy ld t [] (fun H => True) (tk_w t [(20, 0, 0), (6, 0, 0)])) 0 0 (tk_w t [(20, 0, 0), (6, 0, 0)]) := by sorry
set_option maxHeartbeats 4000000 in
set_option maxRecDepth 100000 in
theorem k_X5_chooseFrom_5 (l : Launch) (D : va_G) (cy : Nat → ClassId) (ld : Nat → Nat) (t : tk_T) (a0 : Nat) (p2 : Int32) (p3 : Int32) (p4 : Int32) (ht_a0 : t a0 = (6, 0, 0)) : Met l yX5_chooseFrom (wl yX5_chooseFrom cX5_chooseFrom 7 none) ({ frames := 7, cells := 0, slots := 0, locals := 420 }) (tp D cy ld t [] [.ref a0, .int 5, .int p2, .int p3, .int p4] (fun H => True)) (tv D cy ld t [] (fun H => True) (tk_w t [(20, 0, 0), (6, 0, 0)])) 0 0 (tk_w t [(20, 0, 0), (6, 0, 0)]) := by sorry
set_option maxHeartbeats 4000000 in
set_option maxRecDepth 100000 in
theorem k_X5_chooseFrom_4 (l : Launch) (D : va_G) (cy : Nat → ClassId) (ld : Nat → Nat) (t : tk_T) (a0 : Nat) (p2 : Int32) (p3 : Int32) (p4 : Int32) (ht_a0 : t a0 = (6, 0, 0)) : Met l yX5_chooseFrom (wl yX5_chooseFrom cX5_chooseFrom 7 none) ({ frames := 8, cells := 0, slots := 0, locals := 490 }) (tp D cy ld t [] [.ref a0, .int 4, .int p2, .int p3, .int p4] (fun H => True)) (tv D cy ld t [] (fun H => True) (tk_w t [(20, 0, 0), (6, 0, 0)])) 0 0 (tk_w t [(20, 0, 0), (6, 0, 0)]) := by sorry
set_option maxHeartbeats 4000000 in
set_option maxRecDepth 100000 in
theorem k_X5_chooseFrom_3 (l : Launch) (D : va_G) (cy : Nat → ClassId) (ld : Nat → Nat) (t : tk_T) (a0 : Nat) (p2 : Int32) (p3 : Int32) (p4 : Int32) (ht_a0 : t a0 = (6, 0, 0)) : Met l yX5_chooseFrom (wl yX5_chooseFrom cX5_chooseFrom 7 none) ({ frames := 9, cells := 0, slots := 0, locals := 560 }) (tp D cy ld t [] [.ref a0, .int 3, .int p2, .int p3, .int p4] (fun H => True)) (tv D cy ld t [] (fun H => True) (tk_w t [(20, 0, 0), (6, 0, 0)])) 0 0 (tk_w t [(20, 0, 0), (6, 0, 0)]) := by sorry
end

section
set_option maxHeartbeats 4000000 in
set_option maxRecDepth 100000 in
theorem k_X5_chooseFrom_2 (l : Launch) (D : va_G) (cy : Nat → ClassId) (ld : Nat → Nat) (t : tk_T) (a0 : Nat) (p2 : Int32) (p3 : Int32) (p4 : Int32) (ht_a0 : t a0 = (6, 0, 0)) : Met l yX5_chooseFrom (wl yX5_chooseFrom cX5_chooseFrom 7 none) ({ frames := 10, cells := 0, slots := 0, locals := 630 }) (tp D cy ld t [] [.ref a0, .int 2, .int p2, .int p3, .int p4] (fun H => True)) (tv D cy ld t [] (fun H => True) (tk_w t [(20, 0, 0), (6, 0, 0)])) 0 0 (tk_w t [(20, 0, 0), (6, 0, 0)]) := by sorry
set_option maxHeartbeats 4000000 in
set_option maxRecDepth 100000 in
theorem k_X5_chooseFrom_1 (l : Launch) (D : va_G) (cy : Nat → ClassId) (ld : Nat → Nat) (t : tk_T) (a0 : Nat) (p2 : Int32) (p3 : Int32) (p4 : Int32) (ht_a0 : t a0 = (6, 0, 0)) : Met l yX5_chooseFrom (wl yX5_chooseFrom cX5_chooseFrom 7 none) ({ frames := 11, cells := 0, slots := 0, locals := 700 }) (tp D cy ld t [] [.ref a0, .int 1, .int p2, .int p3, .int p4] (fun H => True)) (tv D cy ld t [] (fun H => True) (tk_w t [(20, 0, 0), (6, 0, 0)])) 0 0 (tk_w t [(20, 0, 0), (6, 0, 0)]) := by sorry
set_option maxHeartbeats 4000000 in
set_option maxRecDepth 100000 in
theorem k_X5_chooseFrom_0 (l : Launch) (D : va_G) (cy : Nat → ClassId) (ld : Nat → Nat) (t : tk_T) (a0 : Nat) (p2 : Int32) (p3 : Int32) (p4 : Int32) (ht_a0 : t a0 = (6, 0, 0)) : Met l yX5_chooseFrom (wl yX5_chooseFrom cX5_chooseFrom 7 none) ({ frames := 12, cells := 0, slots := 0, locals := 770 }) (tp D cy ld t [] [.ref a0, .int 0, .int p2, .int p3, .int p4] (fun H => True)) (tv D cy ld t [] (fun H => True) (tk_w t [(20, 0, 0), (6, 0, 0)])) 0 0 (tk_w t [(20, 0, 0), (6, 0, 0)]) := by sorry
theorem dX5_chooseChampions_0 : decode cX5_chooseChampions 0 = .ok (.iconst 0, 1) := sorry
theorem dX5_chooseChampions_1 : decode cX5_chooseChampions 1 = .ok (.istore_n 2, 1) := sorry
theorem dX5_chooseChampions_2 : decode cX5_chooseChampions 2 = .ok (.iload_n 2, 1) := sorry
theorem dX5_chooseChampions_3 : decode cX5_chooseChampions 3 = .ok (.aload_n 0, 1) := sorry
theorem dX5_chooseChampions_4 : decode cX5_chooseChampions 4 = .ok (.getfield 34, 3) := sorry
theorem dX5_chooseChampions_7 : decode cX5_chooseChampions 7 = .ok (.getfield 127, 3) := sorry
theorem dX5_chooseChampions_10 : decode cX5_chooseChampions 10 = .ok (.if_icmp .ge 71, 3) := sorry
theorem dX5_chooseChampions_81 : decode cX5_chooseChampions 81 = .ok (.aload_n 0, 1) := sorry
theorem dX5_chooseChampions_82 : decode cX5_chooseChampions 82 = .ok (.iconst (-1), 1) := sorry
theorem dX5_chooseChampions_83 : decode cX5_chooseChampions 83 = .ok (.putfield 136, 3) := sorry
theorem dX5_chooseChampions_86 : decode cX5_chooseChampions 86 = .ok (.aload_n 0, 1) := sorry
theorem dX5_chooseChampions_87 : decode cX5_chooseChampions 87 = .ok (.iconst 0, 1) := sorry
theorem dX5_chooseChampions_88 : decode cX5_chooseChampions 88 = .ok (.putfield 139, 3) := sorry
theorem dX5_chooseChampions_91 : decode cX5_chooseChampions 91 = .ok (.aload_n 0, 1) := sorry
theorem dX5_chooseChampions_92 : decode cX5_chooseChampions 92 = .ok (.iconst 0, 1) := sorry
theorem dX5_chooseChampions_93 : decode cX5_chooseChampions 93 = .ok (.iconst 0, 1) := sorry
theorem dX5_chooseChampions_94 : decode cX5_chooseChampions 94 = .ok (.iconst 0, 1) := sorry
theorem dX5_chooseChampions_95 : decode cX5_chooseChampions 95 = .ok (.iconst 0, 1) := sorry
theorem dX5_chooseChampions_96 : decode cX5_chooseChampions 96 = .ok (.invokevirtual 142, 3) := sorry
theorem dX5_chooseChampions_99 : decode cX5_chooseChampions 99 = .ok (.iload_n 1, 1) := sorry
theorem dX5_chooseChampions_100 : decode cX5_chooseChampions 100 = .ok (.iconst 2, 1) := sorry
theorem dX5_chooseChampions_101 : decode cX5_chooseChampions 101 = .ok (.if_icmp .ge 19, 3) := sorry
theorem dX5_chooseChampions_120 : decode cX5_chooseChampions 120 = .ok (.iload_n 1, 1) := sorry
theorem dX5_chooseChampions_121 : decode cX5_chooseChampions 121 = .ok (.iconst 2, 1) := sorry
theorem dX5_chooseChampions_122 : decode cX5_chooseChampions 122 = .ok (.isub, 1) := sorry
theorem dX5_chooseChampions_123 : decode cX5_chooseChampions 123 = .ok (.bipush 8, 2) := sorry
theorem dX5_chooseChampions_125 : decode cX5_chooseChampions 125 = .ok (.if_icmp .ge 14, 3) := sorry
theorem dX5_chooseChampions_139 : decode cX5_chooseChampions 139 = .ok (.iconst (-1), 1) := sorry
theorem dX5_chooseChampions_140 : decode cX5_chooseChampions 140 = .ok (.ireturn, 1) := sorry
theorem dX5_chooseChampions_128 : decode cX5_chooseChampions 128 = .ok (.aload_n 0, 1) := sorry
theorem dX5_chooseChampions_129 : decode cX5_chooseChampions 129 = .ok (.getfield 31, 3) := sorry
theorem dX5_chooseChampions_132 : decode cX5_chooseChampions 132 = .ok (.iload_n 1, 1) := sorry
theorem dX5_chooseChampions_133 : decode cX5_chooseChampions 133 = .ok (.iconst 2, 1) := sorry
theorem dX5_chooseChampions_134 : decode cX5_chooseChampions 134 = .ok (.isub, 1) := sorry
theorem dX5_chooseChampions_135 : decode cX5_chooseChampions 135 = .ok (.iaload, 1) := sorry
theorem dX5_chooseChampions_136 : decode cX5_chooseChampions 136 = .ok (.goto 4, 3) := sorry
theorem dX5_chooseChampions_104 : decode cX5_chooseChampions 104 = .ok (.iload_n 1, 1) := sorry
theorem dX5_chooseChampions_105 : decode cX5_chooseChampions 105 = .ok (.ifCond .ne 10, 3) := sorry
theorem dX5_chooseChampions_115 : decode cX5_chooseChampions 115 = .ok (.aload_n 0, 1) := sorry
theorem dX5_chooseChampions_116 : decode cX5_chooseChampions 116 = .ok (.getfield 139, 3) := sorry
theorem dX5_chooseChampions_119 : decode cX5_chooseChampions 119 = .ok (.ireturn, 1) := sorry
theorem dX5_chooseChampions_108 : decode cX5_chooseChampions 108 = .ok (.aload_n 0, 1) := sorry
theorem dX5_chooseChampions_109 : decode cX5_chooseChampions 109 = .ok (.getfield 136, 3) := sorry
theorem dX5_chooseChampions_112 : decode cX5_chooseChampions 112 = .ok (.goto 7, 3) := sorry
theorem dX5_chooseChampions_13 : decode cX5_chooseChampions 13 = .ok (.iconst 0, 1) := sorry
theorem dX5_chooseChampions_14 : decode cX5_chooseChampions 14 = .ok (.istore_n 3, 1) := sorry
theorem dX5_chooseChampions_15 : decode cX5_chooseChampions 15 = .ok (.iload_n 3, 1) := sorry
theorem dX5_chooseChampions_16 : decode cX5_chooseChampions 16 = .ok (.aload_n 0, 1) := sorry
theorem dX5_chooseChampions_17 : decode cX5_chooseChampions 17 = .ok (.getfield 34, 3) := sorry
theorem dX5_chooseChampions_20 : decode cX5_chooseChampions 20 = .ok (.getfield 127, 3) := sorry
theorem dX5_chooseChampions_23 : decode cX5_chooseChampions 23 = .ok (.if_icmp .ge 52, 3) := sorry
theorem dX5_chooseChampions_75 : decode cX5_chooseChampions 75 = .ok (.iinc 2 1, 3) := sorry
theorem dX5_chooseChampions_78 : decode cX5_chooseChampions 78 = .ok (.goto (-76), 3) := sorry
theorem dX5_chooseChampions_26 : decode cX5_chooseChampions 26 = .ok (.aload_n 0, 1) := sorry
theorem dX5_chooseChampions_27 : decode cX5_chooseChampions 27 = .ok (.getfield 24, 3) := sorry
theorem dX5_chooseChampions_30 : decode cX5_chooseChampions 30 = .ok (.iload_n 2, 1) := sorry
theorem dX5_chooseChampions_31 : decode cX5_chooseChampions 31 = .ok (.aaload, 1) := sorry
theorem dX5_chooseChampions_32 : decode cX5_chooseChampions 32 = .ok (.iload_n 3, 1) := sorry
theorem dX5_chooseChampions_33 : decode cX5_chooseChampions 33 = .ok (.aload_n 0, 1) := sorry
theorem dX5_chooseChampions_34 : decode cX5_chooseChampions 34 = .ok (.getfield 34, 3) := sorry
theorem dX5_chooseChampions_37 : decode cX5_chooseChampions 37 = .ok (.getfield 130, 3) := sorry
theorem dX5_chooseChampions_40 : decode cX5_chooseChampions 40 = .ok (.iload_n 2, 1) := sorry
theorem dX5_chooseChampions_41 : decode cX5_chooseChampions 41 = .ok (.iaload, 1) := sorry
theorem dX5_chooseChampions_68 : decode cX5_chooseChampions 68 = .ok (.iastore, 1) := sorry
theorem dX5_chooseChampions_69 : decode cX5_chooseChampions 69 = .ok (.iinc 3 1, 3) := sorry
theorem dX5_chooseChampions_72 : decode cX5_chooseChampions 72 = .ok (.goto (-57), 3) := sorry
theorem dX5_chooseChampions_42 : decode cX5_chooseChampions 42 = .ok (.ifCond .ne 25, 3) := sorry
theorem dX5_chooseChampions_67 : decode cX5_chooseChampions 67 = .ok (.iconst 0, 1) := sorry
theorem dX5_chooseChampions_45 : decode cX5_chooseChampions 45 = .ok (.aload_n 0, 1) := sorry
theorem dX5_chooseChampions_46 : decode cX5_chooseChampions 46 = .ok (.getfield 34, 3) := sorry
theorem dX5_chooseChampions_49 : decode cX5_chooseChampions 49 = .ok (.getfield 130, 3) := sorry
theorem dX5_chooseChampions_52 : decode cX5_chooseChampions 52 = .ok (.iload_n 3, 1) := sorry
theorem dX5_chooseChampions_53 : decode cX5_chooseChampions 53 = .ok (.iaload, 1) := sorry
theorem dX5_chooseChampions_54 : decode cX5_chooseChampions 54 = .ok (.iconst 1, 1) := sorry
theorem dX5_chooseChampions_55 : decode cX5_chooseChampions 55 = .ok (.if_icmp .ne 12, 3) := sorry
theorem dX5_chooseChampions_58 : decode cX5_chooseChampions 58 = .ok (.aload_n 0, 1) := sorry
theorem dX5_chooseChampions_59 : decode cX5_chooseChampions 59 = .ok (.iload_n 2, 1) := sorry
theorem dX5_chooseChampions_60 : decode cX5_chooseChampions 60 = .ok (.iload_n 3, 1) := sorry
theorem dX5_chooseChampions_61 : decode cX5_chooseChampions 61 = .ok (.invokevirtual 133, 3) := sorry
theorem dX5_chooseChampions_64 : decode cX5_chooseChampions 64 = .ok (.goto 4, 3) := sorry
set_option maxHeartbeats 4000000 in
set_option maxRecDepth 100000 in
theorem k_X5_chooseChampions (l : Launch) (D : va_G) (cy : Nat → ClassId) (ld : Nat → Nat) (t : tk_T) (a0 : Nat) (p1 : Int32) (ht_a0 : t a0 = (6, 0, 0)) : Met l yX5_chooseChampions (wl yX5_chooseChampions cX5_chooseChampions 4 (some .int)) ({ frames := 13, cells := 0, slots := 0, locals := 840 }) (tp D cy ld t [] [.ref a0, .int p1] (fun H => True)) (ti D cy ld t [] (fun r H => True) (tk_w t [(20, 4, 4), (10, 4, 4), (20, 0, 0), (12, 0, 0), (9, 0, 0), (6, 0, 0)])) 0 0 (tk_w t [(20, 4, 4), (10, 4, 4), (20, 0, 0), (12, 0, 0), (9, 0, 0), (6, 0, 0)]) := by sorry
theorem dX6_fail_0 : decode cX6_fail 0 = .ok (.aload_n 0, 1) := sorry
theorem dX6_fail_1 : decode cX6_fail 1 = .ok (.aload_n 0, 1) := sorry
theorem dX6_fail_2 : decode cX6_fail 2 = .ok (.getfield 50, 3) := sorry
theorem dX6_fail_5 : decode cX6_fail 5 = .ok (.iconst (-1), 1) := sorry
theorem dX6_fail_20 : decode cX6_fail 20 = .ok (.putfield 50, 3) := sorry
theorem dX6_fail_23 : decode cX6_fail 23 = .ok (.return_, 1) := sorry
theorem dX6_fail_6 : decode cX6_fail 6 = .ok (.if_icmp .ne 10, 3) := sorry
theorem dX6_fail_16 : decode cX6_fail 16 = .ok (.aload_n 0, 1) := sorry
theorem dX6_fail_17 : decode cX6_fail 17 = .ok (.getfield 50, 3) := sorry
theorem dX6_fail_9 : decode cX6_fail 9 = .ok (.aload_n 0, 1) := sorry
theorem dX6_fail_10 : decode cX6_fail 10 = .ok (.getfield 73, 3) := sorry
theorem dX6_fail_13 : decode cX6_fail 13 = .ok (.goto 7, 3) := sorry
set_option maxHeartbeats 4000000 in
set_option maxRecDepth 100000 in
theorem k_X6_fail (l : Launch) (D : va_G) (cy : Nat → ClassId) (ld : Nat → Nat) (t : tk_T) (a0 : Nat) (g9 : Int32) (ht_a0 : t a0 = (7, 0, 0)) (hp_0 : 0 ≤ g9.toInt) (hp_1 : g9.toInt ≤ 8) : Met l yX6_fail (wl yX6_fail cX6_fail 1 none) ({ frames := 3, cells := 0, slots := 0, locals := 140 }) (tp D cy ld t [] [.ref a0] (fun H => tk_f D H a0 6 9 (.int g9))) (tv D cy ld t [] (fun H => tk_f D H a0 6 9 (.int g9)) (tk_w t [(7, 0, 0)])) 0 0 (tk_w t [(7, 0, 0)]) := by sorry
theorem dX6_isGood_0 : decode cX6_isGood 0 = .ok (.aload_n 0, 1) := sorry
theorem dX6_isGood_1 : decode cX6_isGood 1 = .ok (.getfield 50, 3) := sorry
theorem dX6_isGood_4 : decode cX6_isGood 4 = .ok (.iconst (-1), 1) := sorry
theorem dX6_isGood_5 : decode cX6_isGood 5 = .ok (.if_icmp .ne 7, 3) := sorry
theorem dX6_isGood_12 : decode cX6_isGood 12 = .ok (.iconst 0, 1) := sorry
theorem dX6_isGood_13 : decode cX6_isGood 13 = .ok (.ireturn, 1) := sorry
theorem dX6_isGood_8 : decode cX6_isGood 8 = .ok (.iconst 1, 1) := sorry
theorem dX6_isGood_9 : decode cX6_isGood 9 = .ok (.goto 4, 3) := sorry
set_option maxHeartbeats 4000000 in
set_option maxRecDepth 100000 in
theorem k_X6_isGood (l : Launch) (D : va_G) (cy : Nat → ClassId) (ld : Nat → Nat) (t : tk_T) (a0 : Nat) (ht_a0 : t a0 = (7, 0, 0)) : Met l yX6_isGood (wl yX6_isGood cX6_isGood 1 (some .boolean)) ({ frames := 3, cells := 0, slots := 0, locals := 140 }) (tp D cy ld t [] [.ref a0] (fun H => True)) (ti D cy ld t [] (fun r H => 0 ≤ r.toInt ∧ r.toInt ≤ 1 ∧ 0 ≤ r.toInt ∧ r.toInt ≤ 1) (tk_w t [])) 0 0 (tk_w t []) := by sorry
theorem dJ0_isLatin1_aae02_0 : decode cJ0_isLatin1_aae02 0 = .ok (.getstatic 38, 3) := sorry
theorem dJ0_isLatin1_aae02_3 : decode cJ0_isLatin1_aae02 3 = .ok (.ifCond .eq 14, 3) := sorry
theorem dJ0_isLatin1_aae02_6 : decode cJ0_isLatin1_aae02 6 = .ok (.aload_n 0, 1) := sorry
theorem dJ0_isLatin1_aae02_7 : decode cJ0_isLatin1_aae02 7 = .ok (.getfield 15, 3) := sorry
theorem dJ0_isLatin1_aae02_10 : decode cJ0_isLatin1_aae02 10 = .ok (.ifCond .ne 7, 3) := sorry
theorem dJ0_isLatin1_aae02_13 : decode cJ0_isLatin1_aae02 13 = .ok (.iconst 1, 1) := sorry
theorem dJ0_isLatin1_aae02_14 : decode cJ0_isLatin1_aae02 14 = .ok (.goto 4, 3) := sorry
theorem dJ0_isLatin1_aae02_18 : decode cJ0_isLatin1_aae02 18 = .ok (.ireturn, 1) := sorry
set_option maxHeartbeats 4000000 in
set_option maxRecDepth 100000 in
theorem k_J0_isLatin1_aae02_7 (l : Launch) (D : va_G) (cy : Nat → ClassId) (ld : Nat → Nat) (t : tk_T) : Met l yJ0_isLatin1_aae02 (wl yJ0_isLatin1_aae02 cJ0_isLatin1_aae02 1 (some .boolean)) ({ frames := 3, cells := 0, slots := 0, locals := 140 }) (tp D cy ld t [] [.ref (ld 7)] (fun H => True)) (ti D cy ld t [] (fun r H => r.toInt + (-1) = 0 ∧ 0 ≤ r.toInt ∧ r.toInt ≤ 1) (tk_w t [])) 0 0 (tk_w t []) := by sorry
theorem dJ3_checkIndex_8e157_0 : decode cJ3_checkIndex_8e157 0 = .ok (.iload_n 0, 1) := sorry
theorem dJ3_checkIndex_8e157_1 : decode cJ3_checkIndex_8e157 1 = .ok (.ifCond .lt 8, 3) := sorry
theorem dJ3_checkIndex_8e157_4 : decode cJ3_checkIndex_8e157 4 = .ok (.iload_n 0, 1) := sorry
theorem dJ3_checkIndex_8e157_5 : decode cJ3_checkIndex_8e157 5 = .ok (.iload_n 1, 1) := sorry
theorem dJ3_checkIndex_8e157_6 : decode cJ3_checkIndex_8e157 6 = .ok (.if_icmp .lt 10, 3) := sorry
theorem dJ3_checkIndex_8e157_16 : decode cJ3_checkIndex_8e157 16 = .ok (.iload_n 0, 1) := sorry
theorem dJ3_checkIndex_8e157_17 : decode cJ3_checkIndex_8e157 17 = .ok (.ireturn, 1) := sorry
set_option maxHeartbeats 4000000 in
set_option maxRecDepth 100000 in
theorem k_J3_checkIndex_8e157_0 (l : Launch) (D : va_G) (cy : Nat → ClassId) (ld : Nat → Nat) (t : tk_T) (p0 : Int32) (p1 : Int32) (hp_0 : 0 ≤ p0.toInt) (hp_1 : p0.toInt ≤ 1000) (hp_2 : 1 ≤ p1.toInt) (hp_3 : p1.toInt ≤ 1000) (hp_4 : 0 ≤ (-1) * p0.toInt + p1.toInt + (-1)) : Met l yJ3_checkIndex_8e157 (wl yJ3_checkIndex_8e157 cJ3_checkIndex_8e157 3 (some .int)) ({ frames := 3, cells := 0, slots := 0, locals := 140 }) (tp D cy ld t [] [.int p0, .int p1, .null] (fun H => True)) (ti D cy ld t [] (fun r H => 0 ≤ r.toInt ∧ r.toInt ≤ 999) (tk_w t [])) 0 0 (tk_w t []) := by sorry
set_option maxHeartbeats 4000000 in
set_option maxRecDepth 100000 in
theorem k_J3_checkIndex_8e157_1 (l : Launch) (D : va_G) (cy : Nat → ClassId) (ld : Nat → Nat) (t : tk_T) (p0 : Int32) (p1 : Int32) (a2 : Nat) (hp_0 : 0 ≤ p0.toInt) (hp_1 : p0.toInt ≤ 1000) (hp_2 : 1 ≤ p1.toInt) (hp_3 : p1.toInt ≤ 1000) (hp_4 : 0 ≤ (-1) * p0.toInt + p1.toInt + (-1)) : Met l yJ3_checkIndex_8e157 (wl yJ3_checkIndex_8e157 cJ3_checkIndex_8e157 3 (some .int)) ({ frames := 3, cells := 0, slots := 0, locals := 140 }) (tp D cy ld t [] [.int p0, .int p1, .ref a2] (fun H => True)) (ti D cy ld t [] (fun r H => 0 ≤ r.toInt ∧ r.toInt ≤ 999) (tk_w t [])) 0 0 (tk_w t []) := by sorry
theorem dJ0_checkIndex_df160_0 : decode cJ0_checkIndex_df160 0 = .ok (.iload_n 0, 1) := sorry
theorem dJ0_checkIndex_df160_1 : decode cJ0_checkIndex_df160 1 = .ok (.iload_n 1, 1) := sorry
theorem dJ0_checkIndex_df160_2 : decode cJ0_checkIndex_df160 2 = .ok (.getstatic 1053, 3) := sorry
theorem dJ0_checkIndex_df160_5 : decode cJ0_checkIndex_df160 5 = .ok (.invokestatic 1059, 3) := sorry
theorem dJ0_checkIndex_df160_8 : decode cJ0_checkIndex_df160 8 = .ok (.pop, 1) := sorry
theorem dJ0_checkIndex_df160_9 : decode cJ0_checkIndex_df160 9 = .ok (.return_, 1) := sorry
set_option maxHeartbeats 4000000 in
set_option maxRecDepth 100000 in
theorem k_J0_checkIndex_df160 (l : Launch) (D : va_G) (cy : Nat → ClassId) (ld : Nat → Nat) (t : tk_T) (p0 : Int32) (p1 : Int32) (hp_0 : 0 ≤ p0.toInt) (hp_1 : p0.toInt ≤ 1000) (hp_2 : 1 ≤ p1.toInt) (hp_3 : p1.toInt ≤ 1000) (hp_4 : 0 ≤ (-1) * p0.toInt + p1.toInt + (-1)) : Met l yJ0_checkIndex_df160 (wl yJ0_checkIndex_df160 cJ0_checkIndex_df160 2 none) ({ frames := 4, cells := 0, slots := 0, locals := 210 }) (tp D cy ld t [] [.int p0, .int p1] (fun H => True)) (tv D cy ld t [] (fun H => True) (tk_w t [])) 0 0 (tk_w t []) := by sorry
theorem dJ1_charAt_3b067_0 : decode cJ1_charAt_3b067 0 = .ok (.iload_n 1, 1) := sorry
theorem dJ1_charAt_3b067_1 : decode cJ1_charAt_3b067 1 = .ok (.aload_n 0, 1) := sorry
theorem dJ1_charAt_3b067_2 : decode cJ1_charAt_3b067 2 = .ok (.arraylength, 1) := sorry
theorem dJ1_charAt_3b067_3 : decode cJ1_charAt_3b067 3 = .ok (.invokestatic 9, 3) := sorry
theorem dJ1_charAt_3b067_6 : decode cJ1_charAt_3b067 6 = .ok (.aload_n 0, 1) := sorry
theorem dJ1_charAt_3b067_7 : decode cJ1_charAt_3b067 7 = .ok (.iload_n 1, 1) := sorry
theorem dJ1_charAt_3b067_8 : decode cJ1_charAt_3b067 8 = .ok (.baload, 1) := sorry
theorem dJ1_charAt_3b067_9 : decode cJ1_charAt_3b067 9 = .ok (.sipush 255, 3) := sorry
theorem dJ1_charAt_3b067_12 : decode cJ1_charAt_3b067 12 = .ok (.iand, 1) := sorry
theorem dJ1_charAt_3b067_13 : decode cJ1_charAt_3b067 13 = .ok (.i2c, 1) := sorry
theorem dJ1_charAt_3b067_14 : decode cJ1_charAt_3b067 14 = .ok (.ireturn, 1) := sorry
set_option maxHeartbeats 4000000 in
set_option maxRecDepth 100000 in
theorem k_J1_charAt_3b067_7 (l : Launch) (D : va_G) (cy : Nat → ClassId) (ld : Nat → Nat) (t : tk_T) (p1 : Int32) (hp_0 : 0 ≤ p1.toInt) (hp_1 : p1.toInt ≤ 1) : Met l yJ1_charAt_3b067 (wl yJ1_charAt_3b067 cJ1_charAt_3b067 2 (some .char)) ({ frames := 5, cells := 0, slots := 0, locals := 280 }) (tp D cy ld t [] [.ref (ld 57), .int p1] (fun H => True)) (ti D cy ld t [] (fun r H => 0 ≤ r.toInt ∧ r.toInt ≤ 255) (tk_w t [])) 0 0 (tk_w t []) := by sorry
theorem dJ0_charAt_5068e_0 : decode cJ0_charAt_5068e 0 = .ok (.aload_n 0, 1) := sorry
theorem dJ0_charAt_5068e_1 : decode cJ0_charAt_5068e 1 = .ok (.invokevirtual 492, 3) := sorry
theorem dJ0_charAt_5068e_4 : decode cJ0_charAt_5068e 4 = .ok (.ifCond .eq 12, 3) := sorry
theorem dJ0_charAt_5068e_7 : decode cJ0_charAt_5068e 7 = .ok (.aload_n 0, 1) := sorry
theorem dJ0_charAt_5068e_8 : decode cJ0_charAt_5068e 8 = .ok (.getfield 9, 3) := sorry
theorem dJ0_charAt_5068e_11 : decode cJ0_charAt_5068e 11 = .ok (.iload_n 1, 1) := sorry
theorem dJ0_charAt_5068e_12 : decode cJ0_charAt_5068e 12 = .ok (.invokestatic 495, 3) := sorry
theorem dJ0_charAt_5068e_15 : decode cJ0_charAt_5068e 15 = .ok (.ireturn, 1) := sorry
set_option maxHeartbeats 4000000 in
set_option maxRecDepth 100000 in
theorem k_J0_charAt_5068e_7 (l : Launch) (D : va_G) (cy : Nat → ClassId) (ld : Nat → Nat) (t : tk_T) (p1 : Int32) (hp_0 : 0 ≤ p1.toInt) (hp_1 : p1.toInt ≤ 1) : Met l yJ0_charAt_5068e (wl yJ0_charAt_5068e cJ0_charAt_5068e 2 (some .char)) ({ frames := 6, cells := 0, slots := 0, locals := 350 }) (tp D cy ld t [] [.ref (ld 7), .int p1] (fun H => True)) (ti D cy ld t [] (fun r H => 0 ≤ r.toInt ∧ r.toInt ≤ 255) (tk_w t [])) 0 0 (tk_w t []) := by sorry
theorem dJ0_coder_7d493_0 : decode cJ0_coder_7d493 0 = .ok (.getstatic 38, 3) := sorry
theorem dJ0_coder_7d493_3 : decode cJ0_coder_7d493 3 = .ok (.ifCond .eq 10, 3) := sorry
theorem dJ0_coder_7d493_6 : decode cJ0_coder_7d493 6 = .ok (.aload_n 0, 1) := sorry
theorem dJ0_coder_7d493_7 : decode cJ0_coder_7d493 7 = .ok (.getfield 15, 3) := sorry
theorem dJ0_coder_7d493_10 : decode cJ0_coder_7d493 10 = .ok (.goto 4, 3) := sorry
theorem dJ0_coder_7d493_14 : decode cJ0_coder_7d493 14 = .ok (.ireturn, 1) := sorry
set_option maxHeartbeats 4000000 in
set_option maxRecDepth 100000 in
theorem k_J0_coder_7d493_7 (l : Launch) (D : va_G) (cy : Nat → ClassId) (ld : Nat → Nat) (t : tk_T) : Met l yJ0_coder_7d493 (wl yJ0_coder_7d493 cJ0_coder_7d493 1 (some .byte)) ({ frames := 3, cells := 0, slots := 0, locals := 140 }) (tp D cy ld t [] [.ref (ld 7)] (fun H => True)) (ti D cy ld t [] (fun r H => r.toInt = 0) (tk_w t [])) 0 0 (tk_w t []) := by sorry
theorem dJ0_length_8abf5_0 : decode cJ0_length_8abf5 0 = .ok (.aload_n 0, 1) := sorry
theorem dJ0_length_8abf5_1 : decode cJ0_length_8abf5 1 = .ok (.getfield 9, 3) := sorry
theorem dJ0_length_8abf5_4 : decode cJ0_length_8abf5 4 = .ok (.arraylength, 1) := sorry
theorem dJ0_length_8abf5_5 : decode cJ0_length_8abf5 5 = .ok (.aload_n 0, 1) := sorry
theorem dJ0_length_8abf5_6 : decode cJ0_length_8abf5 6 = .ok (.invokevirtual 335, 3) := sorry
theorem dJ0_length_8abf5_9 : decode cJ0_length_8abf5 9 = .ok (.ishr, 1) := sorry
theorem dJ0_length_8abf5_10 : decode cJ0_length_8abf5 10 = .ok (.ireturn, 1) := sorry
set_option maxHeartbeats 4000000 in
set_option maxRecDepth 100000 in
theorem k_J0_length_8abf5_7 (l : Launch) (D : va_G) (cy : Nat → ClassId) (ld : Nat → Nat) (t : tk_T) : Met l yJ0_length_8abf5 (wl yJ0_length_8abf5 cJ0_length_8abf5 1 (some .int)) ({ frames := 4, cells := 0, slots := 0, locals := 210 }) (tp D cy ld t [] [.ref (ld 7)] (fun H => True)) (ti D cy ld t [] (fun r H => r.toInt + (-2) = 0) (tk_w t [])) 0 0 (tk_w t []) := by sorry
theorem dX6_isToken_0 : decode cX6_isToken 0 = .ok (.iload_n 3, 1) := sorry
theorem dX6_isToken_1 : decode cX6_isToken 1 = .ok (.iload_n 2, 1) := sorry
theorem dX6_isToken_2 : decode cX6_isToken 2 = .ok (.isub, 1) := sorry
theorem dX6_isToken_3 : decode cX6_isToken 3 = .ok (.aload_n 0, 1) := sorry
theorem dX6_isToken_4 : decode cX6_isToken 4 = .ok (.getfield 41, 3) := sorry
theorem dX6_isToken_7 : decode cX6_isToken 7 = .ok (.aload_n 0, 1) := sorry
theorem dX6_isToken_8 : decode cX6_isToken 8 = .ok (.getfield 73, 3) := sorry
theorem dX6_isToken_11 : decode cX6_isToken 11 = .ok (.isub, 1) := sorry
theorem dX6_isToken_12 : decode cX6_isToken 12 = .ok (.if_icmp .eq 5, 3) := sorry
theorem dX6_isToken_17 : decode cX6_isToken 17 = .ok (.iload_n 2, 1) := sorry
theorem dX6_isToken_18 : decode cX6_isToken 18 = .ok (.istore 4, 2) := sorry
theorem dX6_isToken_20 : decode cX6_isToken 20 = .ok (.iload 4, 2) := sorry
theorem dX6_isToken_22 : decode cX6_isToken 22 = .ok (.iload_n 3, 1) := sorry
theorem dX6_isToken_23 : decode cX6_isToken 23 = .ok (.if_icmp .ge 34, 3) := sorry
theorem dX6_isToken_57 : decode cX6_isToken 57 = .ok (.iconst 1, 1) := sorry
theorem dX6_isToken_58 : decode cX6_isToken 58 = .ok (.ireturn, 1) := sorry
theorem dX6_isToken_26 : decode cX6_isToken 26 = .ok (.aload_n 1, 1) := sorry
theorem dX6_isToken_27 : decode cX6_isToken 27 = .ok (.iload 4, 2) := sorry
theorem dX6_isToken_29 : decode cX6_isToken 29 = .ok (.invokevirtual 92, 3) := sorry
theorem dX6_isToken_32 : decode cX6_isToken 32 = .ok (.aload_n 0, 1) := sorry
theorem dX6_isToken_33 : decode cX6_isToken 33 = .ok (.getfield 20, 3) := sorry
theorem dX6_isToken_36 : decode cX6_isToken 36 = .ok (.aload_n 0, 1) := sorry
theorem dX6_isToken_37 : decode cX6_isToken 37 = .ok (.getfield 73, 3) := sorry
theorem dX6_isToken_40 : decode cX6_isToken 40 = .ok (.iload 4, 2) := sorry
theorem dX6_isToken_42 : decode cX6_isToken 42 = .ok (.iadd, 1) := sorry
theorem dX6_isToken_43 : decode cX6_isToken 43 = .ok (.iload_n 2, 1) := sorry
theorem dX6_isToken_44 : decode cX6_isToken 44 = .ok (.isub, 1) := sorry
theorem dX6_isToken_45 : decode cX6_isToken 45 = .ok (.iaload, 1) := sorry
theorem dX6_isToken_46 : decode cX6_isToken 46 = .ok (.if_icmp .eq 5, 3) := sorry
theorem dX6_isToken_51 : decode cX6_isToken 51 = .ok (.iinc 4 1, 3) := sorry
theorem dX6_isToken_54 : decode cX6_isToken 54 = .ok (.goto (-34), 3) := sorry
theorem dX6_isToken_49 : decode cX6_isToken 49 = .ok (.iconst 0, 1) := sorry
theorem dX6_isToken_50 : decode cX6_isToken 50 = .ok (.ireturn, 1) := sorry
theorem dX6_isToken_15 : decode cX6_isToken 15 = .ok (.iconst 0, 1) := sorry
theorem dX6_isToken_16 : decode cX6_isToken 16 = .ok (.ireturn, 1) := sorry
set_option maxHeartbeats 4000000 in
set_option maxRecDepth 100000 in
theorem k_X6_isToken_7 (l : Launch) (D : va_G) (cy : Nat → ClassId) (ld : Nat → Nat) (t : tk_T) (a0 : Nat) (p2 : Int32) (p3 : Int32) (ht_a0 : t a0 = (7, 0, 0)) (hp_0 : 0 ≤ p2.toInt) (hp_1 : p2.toInt ≤ 2) (hp_2 : 0 ≤ p3.toInt) (hp_3 : p3.toInt ≤ 2) : Met l yX6_isToken (wl yX6_isToken cX6_isToken 5 (some .boolean)) ({ frames := 7, cells := 0, slots := 0, locals := 420 }) (tp D cy ld t [] [.ref a0, .ref (ld 7), .int p2, .int p3] (fun H => True)) (ti D cy ld t [] (fun r H => 0 ≤ r.toInt ∧ r.toInt ≤ 1 ∧ 0 ≤ r.toInt ∧ r.toInt ≤ 1) (tk_w t [])) 0 0 (tk_w t []) := by sorry
theorem dX6_wordAmong_0 : decode cX6_wordAmong 0 = .ok (.aload_n 0, 1) := sorry
theorem dX6_wordAmong_1 : decode cX6_wordAmong 1 = .ok (.invokevirtual 56, 3) := sorry
theorem dX6_wordAmong_4 : decode cX6_wordAmong 4 = .ok (.ifCond .eq 11, 3) := sorry
theorem dX6_wordAmong_15 : decode cX6_wordAmong 15 = .ok (.iconst (-1), 1) := sorry
theorem dX6_wordAmong_16 : decode cX6_wordAmong 16 = .ok (.ireturn, 1) := sorry
theorem dX6_wordAmong_7 : decode cX6_wordAmong 7 = .ok (.aload_n 0, 1) := sorry
theorem dX6_wordAmong_8 : decode cX6_wordAmong 8 = .ok (.getfield 67, 3) := sorry
theorem dX6_wordAmong_11 : decode cX6_wordAmong 11 = .ok (.iconst 1, 1) := sorry
theorem dX6_wordAmong_12 : decode cX6_wordAmong 12 = .ok (.if_icmp .eq 5, 3) := sorry
theorem dX6_wordAmong_17 : decode cX6_wordAmong 17 = .ok (.iconst 0, 1) := sorry
theorem dX6_wordAmong_18 : decode cX6_wordAmong 18 = .ok (.istore_n 2, 1) := sorry
theorem dX6_wordAmong_19 : decode cX6_wordAmong 19 = .ok (.iconst 0, 1) := sorry
theorem dX6_wordAmong_20 : decode cX6_wordAmong 20 = .ok (.istore_n 3, 1) := sorry
theorem dX6_wordAmong_21 : decode cX6_wordAmong 21 = .ok (.iconst 0, 1) := sorry
theorem dX6_wordAmong_22 : decode cX6_wordAmong 22 = .ok (.istore 4, 2) := sorry
theorem dX6_wordAmong_24 : decode cX6_wordAmong 24 = .ok (.iload 4, 2) := sorry
theorem dX6_wordAmong_26 : decode cX6_wordAmong 26 = .ok (.aload_n 1, 1) := sorry
theorem dX6_wordAmong_27 : decode cX6_wordAmong 27 = .ok (.invokevirtual 87, 3) := sorry
theorem dX6_wordAmong_30 : decode cX6_wordAmong 30 = .ok (.if_icmp .gt 50, 3) := sorry
theorem dX6_wordAmong_80 : decode cX6_wordAmong 80 = .ok (.iconst (-1), 1) := sorry
theorem dX6_wordAmong_81 : decode cX6_wordAmong 81 = .ok (.ireturn, 1) := sorry
theorem dX6_wordAmong_33 : decode cX6_wordAmong 33 = .ok (.iload 4, 2) := sorry
theorem dX6_wordAmong_35 : decode cX6_wordAmong 35 = .ok (.aload_n 1, 1) := sorry
theorem dX6_wordAmong_36 : decode cX6_wordAmong 36 = .ok (.invokevirtual 87, 3) := sorry
theorem dX6_wordAmong_39 : decode cX6_wordAmong 39 = .ok (.if_icmp .eq 14, 3) := sorry
theorem dX6_wordAmong_53 : decode cX6_wordAmong 53 = .ok (.aload_n 0, 1) := sorry
theorem dX6_wordAmong_54 : decode cX6_wordAmong 54 = .ok (.aload_n 1, 1) := sorry
theorem dX6_wordAmong_55 : decode cX6_wordAmong 55 = .ok (.iload_n 3, 1) := sorry
theorem dX6_wordAmong_56 : decode cX6_wordAmong 56 = .ok (.iload 4, 2) := sorry
theorem dX6_wordAmong_58 : decode cX6_wordAmong 58 = .ok (.invokevirtual 96, 3) := sorry
theorem dX6_wordAmong_61 : decode cX6_wordAmong 61 = .ok (.ifCond .eq 5, 3) := sorry
theorem dX6_wordAmong_66 : decode cX6_wordAmong 66 = .ok (.iinc 2 1, 3) := sorry
theorem dX6_wordAmong_69 : decode cX6_wordAmong 69 = .ok (.iload 4, 2) := sorry
theorem dX6_wordAmong_71 : decode cX6_wordAmong 71 = .ok (.iconst 1, 1) := sorry
theorem dX6_wordAmong_72 : decode cX6_wordAmong 72 = .ok (.iadd, 1) := sorry
theorem dX6_wordAmong_73 : decode cX6_wordAmong 73 = .ok (.istore_n 3, 1) := sorry
theorem dX6_wordAmong_74 : decode cX6_wordAmong 74 = .ok (.iinc 4 1, 3) := sorry
theorem dX6_wordAmong_77 : decode cX6_wordAmong 77 = .ok (.goto (-53), 3) := sorry
theorem dX6_wordAmong_64 : decode cX6_wordAmong 64 = .ok (.iload_n 2, 1) := sorry
theorem dX6_wordAmong_65 : decode cX6_wordAmong 65 = .ok (.ireturn, 1) := sorry
theorem dX6_wordAmong_42 : decode cX6_wordAmong 42 = .ok (.aload_n 1, 1) := sorry
theorem dX6_wordAmong_43 : decode cX6_wordAmong 43 = .ok (.iload 4, 2) := sorry
theorem dX6_wordAmong_45 : decode cX6_wordAmong 45 = .ok (.invokevirtual 92, 3) := sorry
theorem dX6_wordAmong_48 : decode cX6_wordAmong 48 = .ok (.bipush 32, 2) := sorry
theorem dX6_wordAmong_50 : decode cX6_wordAmong 50 = .ok (.if_icmp .ne 24, 3) := sorry
set_option maxHeartbeats 4000000 in
set_option maxRecDepth 100000 in
theorem k_X6_wordAmong_7 (l : Launch) (D : va_G) (cy : Nat → ClassId) (ld : Nat → Nat) (t : tk_T) (a0 : Nat) (ht_a0 : t a0 = (7, 0, 0)) : Met l yX6_wordAmong (wl yX6_wordAmong cX6_wordAmong 5 (some .int)) ({ frames := 8, cells := 0, slots := 0, locals := 490 }) (tp D cy ld t [] [.ref a0, .ref (ld 7)] (fun H => True)) (ti D cy ld t [] (fun r H => (-1) ≤ r.toInt ∧ r.toInt ≤ 2) (tk_w t [])) 0 0 (tk_w t []) := by sorry
end

section
theorem dX6_isWord_0 : decode cX6_isWord 0 = .ok (.aload_n 0, 1) := sorry
theorem dX6_isWord_1 : decode cX6_isWord 1 = .ok (.aload_n 1, 1) := sorry
theorem dX6_isWord_2 : decode cX6_isWord 2 = .ok (.invokevirtual 100, 3) := sorry
theorem dX6_isWord_5 : decode cX6_isWord 5 = .ok (.ifCond .ne 7, 3) := sorry
theorem dX6_isWord_12 : decode cX6_isWord 12 = .ok (.iconst 0, 1) := sorry
theorem dX6_isWord_13 : decode cX6_isWord 13 = .ok (.ireturn, 1) := sorry
theorem dX6_isWord_8 : decode cX6_isWord 8 = .ok (.iconst 1, 1) := sorry
theorem dX6_isWord_9 : decode cX6_isWord 9 = .ok (.goto 4, 3) := sorry
set_option maxHeartbeats 4000000 in
set_option maxRecDepth 100000 in
theorem k_X6_isWord_7 (l : Launch) (D : va_G) (cy : Nat → ClassId) (ld : Nat → Nat) (t : tk_T) (a0 : Nat) (ht_a0 : t a0 = (7, 0, 0)) : Met l yX6_isWord (wl yX6_isWord cX6_isWord 2 (some .boolean)) ({ frames := 9, cells := 0, slots := 0, locals := 560 }) (tp D cy ld t [] [.ref a0, .ref (ld 7)] (fun H => True)) (ti D cy ld t [] (fun r H => 0 ≤ r.toInt ∧ r.toInt ≤ 1 ∧ 0 ≤ r.toInt ∧ r.toInt ≤ 1) (tk_w t [])) 0 0 (tk_w t []) := by sorry
set_option maxHeartbeats 4000000 in
set_option maxRecDepth 100000 in
theorem k_J0_isLatin1_aae02_10 (l : Launch) (D : va_G) (cy : Nat → ClassId) (ld : Nat → Nat) (t : tk_T) : Met l yJ0_isLatin1_aae02 (wl yJ0_isLatin1_aae02 cJ0_isLatin1_aae02 1 (some .boolean)) ({ frames := 3, cells := 0, slots := 0, locals := 140 }) (tp D cy ld t [] [.ref (ld 10)] (fun H => True)) (ti D cy ld t [] (fun r H => r.toInt + (-1) = 0 ∧ 0 ≤ r.toInt ∧ r.toInt ≤ 1) (tk_w t [])) 0 0 (tk_w t []) := by sorry
set_option maxHeartbeats 4000000 in
set_option maxRecDepth 100000 in
theorem k_J1_charAt_3b067_10 (l : Launch) (D : va_G) (cy : Nat → ClassId) (ld : Nat → Nat) (t : tk_T) (p1 : Int32) (hp_0 : 0 ≤ p1.toInt) (hp_1 : p1.toInt ≤ 1) : Met l yJ1_charAt_3b067 (wl yJ1_charAt_3b067 cJ1_charAt_3b067 2 (some .char)) ({ frames := 5, cells := 0, slots := 0, locals := 280 }) (tp D cy ld t [] [.ref (ld 60), .int p1] (fun H => True)) (ti D cy ld t [] (fun r H => 0 ≤ r.toInt ∧ r.toInt ≤ 255) (tk_w t [])) 0 0 (tk_w t []) := by sorry
set_option maxHeartbeats 4000000 in
set_option maxRecDepth 100000 in
theorem k_J0_charAt_5068e_10 (l : Launch) (D : va_G) (cy : Nat → ClassId) (ld : Nat → Nat) (t : tk_T) (p1 : Int32) (hp_0 : 0 ≤ p1.toInt) (hp_1 : p1.toInt ≤ 1) : Met l yJ0_charAt_5068e (wl yJ0_charAt_5068e cJ0_charAt_5068e 2 (some .char)) ({ frames := 6, cells := 0, slots := 0, locals := 350 }) (tp D cy ld t [] [.ref (ld 10), .int p1] (fun H => True)) (ti D cy ld t [] (fun r H => 0 ≤ r.toInt ∧ r.toInt ≤ 255) (tk_w t [])) 0 0 (tk_w t []) := by sorry
set_option maxHeartbeats 4000000 in
set_option maxRecDepth 100000 in
theorem k_J0_coder_7d493_10 (l : Launch) (D : va_G) (cy : Nat → ClassId) (ld : Nat → Nat) (t : tk_T) : Met l yJ0_coder_7d493 (wl yJ0_coder_7d493 cJ0_coder_7d493 1 (some .byte)) ({ frames := 3, cells := 0, slots := 0, locals := 140 }) (tp D cy ld t [] [.ref (ld 10)] (fun H => True)) (ti D cy ld t [] (fun r H => r.toInt = 0) (tk_w t [])) 0 0 (tk_w t []) := by sorry
set_option maxHeartbeats 4000000 in
set_option maxRecDepth 100000 in
theorem k_J0_length_8abf5_10 (l : Launch) (D : va_G) (cy : Nat → ClassId) (ld : Nat → Nat) (t : tk_T) : Met l yJ0_length_8abf5 (wl yJ0_length_8abf5 cJ0_length_8abf5 1 (some .int)) ({ frames := 4, cells := 0, slots := 0, locals := 210 }) (tp D cy ld t [] [.ref (ld 10)] (fun H => True)) (ti D cy ld t [] (fun r H => r.toInt + (-2) = 0) (tk_w t [])) 0 0 (tk_w t []) := by sorry
set_option maxHeartbeats 4000000 in
set_option maxRecDepth 100000 in
theorem k_X6_isToken_10 (l : Launch) (D : va_G) (cy : Nat → ClassId) (ld : Nat → Nat) (t : tk_T) (a0 : Nat) (p2 : Int32) (p3 : Int32) (ht_a0 : t a0 = (7, 0, 0)) (hp_0 : 0 ≤ p2.toInt) (hp_1 : p2.toInt ≤ 2) (hp_2 : 0 ≤ p3.toInt) (hp_3 : p3.toInt ≤ 2) : Met l yX6_isToken (wl yX6_isToken cX6_isToken 5 (some .boolean)) ({ frames := 7, cells := 0, slots := 0, locals := 420 }) (tp D cy ld t [] [.ref a0, .ref (ld 10), .int p2, .int p3] (fun H => True)) (ti D cy ld t [] (fun r H => 0 ≤ r.toInt ∧ r.toInt ≤ 1 ∧ 0 ≤ r.toInt ∧ r.toInt ≤ 1) (tk_w t [])) 0 0 (tk_w t []) := by sorry
set_option maxHeartbeats 4000000 in
set_option maxRecDepth 100000 in
theorem k_X6_wordAmong_10 (l : Launch) (D : va_G) (cy : Nat → ClassId) (ld : Nat → Nat) (t : tk_T) (a0 : Nat) (ht_a0 : t a0 = (7, 0, 0)) : Met l yX6_wordAmong (wl yX6_wordAmong cX6_wordAmong 5 (some .int)) ({ frames := 8, cells := 0, slots := 0, locals := 490 }) (tp D cy ld t [] [.ref a0, .ref (ld 10)] (fun H => True)) (ti D cy ld t [] (fun r H => (-1) ≤ r.toInt ∧ r.toInt ≤ 2) (tk_w t [])) 0 0 (tk_w t []) := by sorry
set_option maxHeartbeats 4000000 in
set_option maxRecDepth 100000 in
theorem k_X6_isWord_10 (l : Launch) (D : va_G) (cy : Nat → ClassId) (ld : Nat → Nat) (t : tk_T) (a0 : Nat) (ht_a0 : t a0 = (7, 0, 0)) : Met l yX6_isWord (wl yX6_isWord cX6_isWord 2 (some .boolean)) ({ frames := 9, cells := 0, slots := 0, locals := 560 }) (tp D cy ld t [] [.ref a0, .ref (ld 10)] (fun H => True)) (ti D cy ld t [] (fun r H => 0 ≤ r.toInt ∧ r.toInt ≤ 1 ∧ 0 ≤ r.toInt ∧ r.toInt ≤ 1) (tk_w t [])) 0 0 (tk_w t []) := by sorry
theorem dX6_landHere_0 : decode cX6_landHere 0 = .ok (.iload_n 1, 1) := sorry
theorem dX6_landHere_1 : decode cX6_landHere 1 = .ok (.aload_n 0, 1) := sorry
theorem dX6_landHere_2 : decode cX6_landHere 2 = .ok (.getfield 16, 3) := sorry
theorem dX6_landHere_5 : decode cX6_landHere 5 = .ok (.getfield 170, 3) := sorry
theorem dX6_landHere_8 : decode cX6_landHere 8 = .ok (.arraylength, 1) := sorry
theorem dX6_landHere_9 : decode cX6_landHere 9 = .ok (.if_icmp .ge 19, 3) := sorry
theorem dX6_landHere_28 : decode cX6_landHere 28 = .ok (.return_, 1) := sorry
theorem dX6_landHere_12 : decode cX6_landHere 12 = .ok (.aload_n 0, 1) := sorry
theorem dX6_landHere_13 : decode cX6_landHere 13 = .ok (.getfield 16, 3) := sorry
theorem dX6_landHere_16 : decode cX6_landHere 16 = .ok (.getfield 170, 3) := sorry
theorem dX6_landHere_19 : decode cX6_landHere 19 = .ok (.iload_n 1, 1) := sorry
theorem dX6_landHere_20 : decode cX6_landHere 20 = .ok (.aload_n 0, 1) := sorry
theorem dX6_landHere_21 : decode cX6_landHere 21 = .ok (.getfield 16, 3) := sorry
theorem dX6_landHere_24 : decode cX6_landHere 24 = .ok (.getfield 136, 3) := sorry
theorem dX6_landHere_27 : decode cX6_landHere 27 = .ok (.iastore, 1) := sorry
set_option maxHeartbeats 4000000 in
set_option maxRecDepth 100000 in
theorem k_X6_landHere (l : Launch) (D : va_G) (cy : Nat → ClassId) (ld : Nat → Nat) (t : tk_T) (a0 : Nat) (p1 : Int32) (ht_a0 : t a0 = (7, 0, 0)) (hp_0 : 0 ≤ p1.toInt) (hp_1 : p1.toInt ≤ 2147483647) : Met l yX6_landHere (wl yX6_landHere cX6_landHere 2 none) ({ frames := 3, cells := 0, slots := 0, locals := 140 }) (tp D cy ld t [] [.ref a0, .int p1] (fun H => True)) (tv D cy ld t [] (fun H => True) (tk_w t [(20, 0, 0)])) 0 0 (tk_w t [(20, 0, 0)]) := by sorry
set_option maxHeartbeats 4000000 in
set_option maxRecDepth 100000 in
theorem k_J0_isLatin1_aae02_9 (l : Launch) (D : va_G) (cy : Nat → ClassId) (ld : Nat → Nat) (t : tk_T) : Met l yJ0_isLatin1_aae02 (wl yJ0_isLatin1_aae02 cJ0_isLatin1_aae02 1 (some .boolean)) ({ frames := 3, cells := 0, slots := 0, locals := 140 }) (tp D cy ld t [] [.ref (ld 9)] (fun H => True)) (ti D cy ld t [] (fun r H => r.toInt + (-1) = 0 ∧ 0 ≤ r.toInt ∧ r.toInt ≤ 1) (tk_w t [])) 0 0 (tk_w t []) := by sorry
set_option maxHeartbeats 4000000 in
set_option maxRecDepth 100000 in
theorem k_J1_charAt_3b067_9 (l : Launch) (D : va_G) (cy : Nat → ClassId) (ld : Nat → Nat) (t : tk_T) (p1 : Int32) (hp_0 : 0 ≤ p1.toInt) (hp_1 : p1.toInt ≤ 2) : Met l yJ1_charAt_3b067 (wl yJ1_charAt_3b067 cJ1_charAt_3b067 2 (some .char)) ({ frames := 5, cells := 0, slots := 0, locals := 280 }) (tp D cy ld t [] [.ref (ld 59), .int p1] (fun H => True)) (ti D cy ld t [] (fun r H => 0 ≤ r.toInt ∧ r.toInt ≤ 255) (tk_w t [])) 0 0 (tk_w t []) := by sorry
set_option maxHeartbeats 4000000 in
set_option maxRecDepth 100000 in
theorem k_J0_charAt_5068e_9 (l : Launch) (D : va_G) (cy : Nat → ClassId) (ld : Nat → Nat) (t : tk_T) (p1 : Int32) (hp_0 : 0 ≤ p1.toInt) (hp_1 : p1.toInt ≤ 2) : Met l yJ0_charAt_5068e (wl yJ0_charAt_5068e cJ0_charAt_5068e 2 (some .char)) ({ frames := 6, cells := 0, slots := 0, locals := 350 }) (tp D cy ld t [] [.ref (ld 9), .int p1] (fun H => True)) (ti D cy ld t [] (fun r H => 0 ≤ r.toInt ∧ r.toInt ≤ 255) (tk_w t [])) 0 0 (tk_w t []) := by sorry
set_option maxHeartbeats 4000000 in
set_option maxRecDepth 100000 in
theorem k_J0_coder_7d493_9 (l : Launch) (D : va_G) (cy : Nat → ClassId) (ld : Nat → Nat) (t : tk_T) : Met l yJ0_coder_7d493 (wl yJ0_coder_7d493 cJ0_coder_7d493 1 (some .byte)) ({ frames := 3, cells := 0, slots := 0, locals := 140 }) (tp D cy ld t [] [.ref (ld 9)] (fun H => True)) (ti D cy ld t [] (fun r H => r.toInt = 0) (tk_w t [])) 0 0 (tk_w t []) := by sorry
set_option maxHeartbeats 4000000 in
set_option maxRecDepth 100000 in
theorem k_J0_length_8abf5_9 (l : Launch) (D : va_G) (cy : Nat → ClassId) (ld : Nat → Nat) (t : tk_T) : Met l yJ0_length_8abf5 (wl yJ0_length_8abf5 cJ0_length_8abf5 1 (some .int)) ({ frames := 4, cells := 0, slots := 0, locals := 210 }) (tp D cy ld t [] [.ref (ld 9)] (fun H => True)) (ti D cy ld t [] (fun r H => r.toInt + (-3) = 0) (tk_w t [])) 0 0 (tk_w t []) := by sorry
set_option maxHeartbeats 4000000 in
set_option maxRecDepth 100000 in
theorem k_X6_isToken_9 (l : Launch) (D : va_G) (cy : Nat → ClassId) (ld : Nat → Nat) (t : tk_T) (a0 : Nat) (p2 : Int32) (p3 : Int32) (ht_a0 : t a0 = (7, 0, 0)) (hp_0 : 0 ≤ p2.toInt) (hp_1 : p2.toInt ≤ 3) (hp_2 : 0 ≤ p3.toInt) (hp_3 : p3.toInt ≤ 3) : Met l yX6_isToken (wl yX6_isToken cX6_isToken 5 (some .boolean)) ({ frames := 7, cells := 0, slots := 0, locals := 420 }) (tp D cy ld t [] [.ref a0, .ref (ld 9), .int p2, .int p3] (fun H => True)) (ti D cy ld t [] (fun r H => 0 ≤ r.toInt ∧ r.toInt ≤ 1 ∧ 0 ≤ r.toInt ∧ r.toInt ≤ 1) (tk_w t [])) 0 0 (tk_w t []) := by sorry
set_option maxHeartbeats 4000000 in
set_option maxRecDepth 100000 in
theorem k_X6_wordAmong_9 (l : Launch) (D : va_G) (cy : Nat → ClassId) (ld : Nat → Nat) (t : tk_T) (a0 : Nat) (ht_a0 : t a0 = (7, 0, 0)) : Met l yX6_wordAmong (wl yX6_wordAmong cX6_wordAmong 5 (some .int)) ({ frames := 8, cells := 0, slots := 0, locals := 490 }) (tp D cy ld t [] [.ref a0, .ref (ld 9)] (fun H => True)) (ti D cy ld t [] (fun r H => (-1) ≤ r.toInt ∧ r.toInt ≤ 3) (tk_w t [])) 0 0 (tk_w t []) := by sorry
set_option maxHeartbeats 4000000 in
set_option maxRecDepth 100000 in
theorem k_X6_isWord_9 (l : Launch) (D : va_G) (cy : Nat → ClassId) (ld : Nat → Nat) (t : tk_T) (a0 : Nat) (ht_a0 : t a0 = (7, 0, 0)) : Met l yX6_isWord (wl yX6_isWord cX6_isWord 2 (some .boolean)) ({ frames := 9, cells := 0, slots := 0, locals := 560 }) (tp D cy ld t [] [.ref a0, .ref (ld 9)] (fun H => True)) (ti D cy ld t [] (fun r H => 0 ≤ r.toInt ∧ r.toInt ≤ 1 ∧ 0 ≤ r.toInt ∧ r.toInt ≤ 1) (tk_w t [])) 0 0 (tk_w t []) := by sorry
theorem dX6_kindOf_0 : decode cX6_kindOf 0 = .ok (.iload_n 0, 1) := sorry
theorem dX6_kindOf_1 : decode cX6_kindOf 1 = .ok (.bipush 97, 2) := sorry
theorem dX6_kindOf_3 : decode cX6_kindOf 3 = .ok (.if_icmp .lt 11, 3) := sorry
theorem dX6_kindOf_14 : decode cX6_kindOf 14 = .ok (.iload_n 0, 1) := sorry
theorem dX6_kindOf_15 : decode cX6_kindOf 15 = .ok (.bipush 48, 2) := sorry
theorem dX6_kindOf_17 : decode cX6_kindOf 17 = .ok (.if_icmp .lt 13, 3) := sorry
theorem dX6_kindOf_30 : decode cX6_kindOf 30 = .ok (.iconst 3, 1) := sorry
theorem dX6_kindOf_31 : decode cX6_kindOf 31 = .ok (.ireturn, 1) := sorry
theorem dX6_kindOf_20 : decode cX6_kindOf 20 = .ok (.iload_n 0, 1) := sorry
theorem dX6_kindOf_21 : decode cX6_kindOf 21 = .ok (.bipush 57, 2) := sorry
theorem dX6_kindOf_23 : decode cX6_kindOf 23 = .ok (.if_icmp .gt 7, 3) := sorry
theorem dX6_kindOf_26 : decode cX6_kindOf 26 = .ok (.iconst 2, 1) := sorry
theorem dX6_kindOf_27 : decode cX6_kindOf 27 = .ok (.goto 4, 3) := sorry
theorem dX6_kindOf_6 : decode cX6_kindOf 6 = .ok (.iload_n 0, 1) := sorry
theorem dX6_kindOf_7 : decode cX6_kindOf 7 = .ok (.bipush 122, 2) := sorry
theorem dX6_kindOf_9 : decode cX6_kindOf 9 = .ok (.if_icmp .gt 5, 3) := sorry
theorem dX6_kindOf_12 : decode cX6_kindOf 12 = .ok (.iconst 1, 1) := sorry
theorem dX6_kindOf_13 : decode cX6_kindOf 13 = .ok (.ireturn, 1) := sorry
set_option maxHeartbeats 4000000 in
set_option maxRecDepth 100000 in
theorem k_X6_kindOf (l : Launch) (D : va_G) (cy : Nat → ClassId) (ld : Nat → Nat) (t : tk_T) (X : List Nat) (p0 : Int32) : Met l yX6_kindOf (wl yX6_kindOf cX6_kindOf 1 (some .int)) ({ frames := 3, cells := 0, slots := 0, locals := 140 }) (tp D cy ld t X [.int p0] (fun H => True)) (ti D cy ld t X (fun r H => 1 ≤ r.toInt ∧ r.toInt ≤ 3) (tk_w t [])) 0 0 (tk_w t []) := by sorry
theorem dX6_step_0 : decode cX6_step 0 = .ok (.aload_n 0, 1) := sorry
theorem dX6_step_1 : decode cX6_step 1 = .ok (.getfield 41, 3) := sorry
theorem dX6_step_4 : decode cX6_step 4 = .ok (.istore_n 1, 1) := sorry
theorem dX6_step_5 : decode cX6_step 5 = .ok (.iload_n 1, 1) := sorry
theorem dX6_step_6 : decode cX6_step 6 = .ok (.aload_n 0, 1) := sorry
theorem dX6_step_7 : decode cX6_step 7 = .ok (.getfield 33, 3) := sorry
theorem dX6_step_30 : decode cX6_step 30 = .ok (.aload_n 0, 1) := sorry
theorem dX6_step_31 : decode cX6_step 31 = .ok (.iload_n 1, 1) := sorry
theorem dX6_step_32 : decode cX6_step 32 = .ok (.putfield 73, 3) := sorry
theorem dX6_step_35 : decode cX6_step 35 = .ok (.aload_n 0, 1) := sorry
theorem dX6_step_36 : decode cX6_step 36 = .ok (.iload_n 1, 1) := sorry
theorem dX6_step_37 : decode cX6_step 37 = .ok (.aload_n 0, 1) := sorry
theorem dX6_step_38 : decode cX6_step 38 = .ok (.getfield 33, 3) := sorry
theorem dX6_step_41 : decode cX6_step 41 = .ok (.if_icmp .ge 15, 3) := sorry
theorem dX6_step_56 : decode cX6_step 56 = .ok (.iconst 0, 1) := sorry
theorem dX6_step_57 : decode cX6_step 57 = .ok (.putfield 67, 3) := sorry
theorem dX6_step_60 : decode cX6_step 60 = .ok (.aload_n 0, 1) := sorry
theorem dX6_step_61 : decode cX6_step 61 = .ok (.iconst 0, 1) := sorry
theorem dX6_step_62 : decode cX6_step 62 = .ok (.putfield 80, 3) := sorry
theorem dX6_step_65 : decode cX6_step 65 = .ok (.iload_n 1, 1) := sorry
theorem dX6_step_66 : decode cX6_step 66 = .ok (.istore_n 2, 1) := sorry
theorem dX6_step_67 : decode cX6_step 67 = .ok (.iload_n 1, 1) := sorry
theorem dX6_step_68 : decode cX6_step 68 = .ok (.aload_n 0, 1) := sorry
theorem dX6_step_69 : decode cX6_step 69 = .ok (.getfield 33, 3) := sorry
theorem dX6_step_72 : decode cX6_step 72 = .ok (.if_icmp .ge 77, 3) := sorry
theorem dX6_step_149 : decode cX6_step 149 = .ok (.aload_n 0, 1) := sorry
theorem dX6_step_150 : decode cX6_step 150 = .ok (.iload_n 1, 1) := sorry
theorem dX6_step_151 : decode cX6_step 151 = .ok (.putfield 41, 3) := sorry
theorem dX6_step_154 : decode cX6_step 154 = .ok (.return_, 1) := sorry
theorem dX6_step_44 : decode cX6_step 44 = .ok (.aload_n 0, 1) := sorry
theorem dX6_step_45 : decode cX6_step 45 = .ok (.getfield 20, 3) := sorry
theorem dX6_step_48 : decode cX6_step 48 = .ok (.iload_n 1, 1) := sorry
theorem dX6_step_49 : decode cX6_step 49 = .ok (.iaload, 1) := sorry
theorem dX6_step_50 : decode cX6_step 50 = .ok (.invokestatic 76, 3) := sorry
theorem dX6_step_53 : decode cX6_step 53 = .ok (.goto 4, 3) := sorry
theorem dX6_step_75 : decode cX6_step 75 = .ok (.iload_n 1, 1) := sorry
theorem dX6_step_76 : decode cX6_step 76 = .ok (.iload_n 2, 1) := sorry
theorem dX6_step_77 : decode cX6_step 77 = .ok (.if_icmp .eq 11, 3) := sorry
theorem dX6_step_88 : decode cX6_step 88 = .ok (.aload_n 0, 1) := sorry
theorem dX6_step_89 : decode cX6_step 89 = .ok (.getfield 20, 3) := sorry
theorem dX6_step_92 : decode cX6_step 92 = .ok (.iload_n 1, 1) := sorry
theorem dX6_step_93 : decode cX6_step 93 = .ok (.iaload, 1) := sorry
theorem dX6_step_94 : decode cX6_step 94 = .ok (.invokestatic 76, 3) := sorry
theorem dX6_step_97 : decode cX6_step 97 = .ok (.aload_n 0, 1) := sorry
theorem dX6_step_98 : decode cX6_step 98 = .ok (.getfield 67, 3) := sorry
theorem dX6_step_101 : decode cX6_step 101 = .ok (.if_icmp .ne 48, 3) := sorry
theorem dX6_step_104 : decode cX6_step 104 = .ok (.aload_n 0, 1) := sorry
theorem dX6_step_105 : decode cX6_step 105 = .ok (.aload_n 0, 1) := sorry
theorem dX6_step_106 : decode cX6_step 106 = .ok (.getfield 67, 3) := sorry
theorem dX6_step_109 : decode cX6_step 109 = .ok (.iconst 2, 1) := sorry
theorem dX6_step_140 : decode cX6_step 140 = .ok (.putfield 80, 3) := sorry
theorem dX6_step_143 : decode cX6_step 143 = .ok (.iinc 1 1, 3) := sorry
theorem dX6_step_146 : decode cX6_step 146 = .ok (.goto (-79), 3) := sorry
theorem dX6_step_110 : decode cX6_step 110 = .ok (.if_icmp .ne 29, 3) := sorry
theorem dX6_step_139 : decode cX6_step 139 = .ok (.iconst 0, 1) := sorry
theorem dX6_step_113 : decode cX6_step 113 = .ok (.aload_n 0, 1) := sorry
theorem dX6_step_114 : decode cX6_step 114 = .ok (.getfield 80, 3) := sorry
theorem dX6_step_117 : decode cX6_step 117 = .ok (.bipush 10, 2) := sorry
theorem dX6_step_119 : decode cX6_step 119 = .ok (.imul, 1) := sorry
theorem dX6_step_120 : decode cX6_step 120 = .ok (.aload_n 0, 1) := sorry
theorem dX6_step_121 : decode cX6_step 121 = .ok (.getfield 20, 3) := sorry
theorem dX6_step_124 : decode cX6_step 124 = .ok (.iload_n 1, 1) := sorry
theorem dX6_step_125 : decode cX6_step 125 = .ok (.iaload, 1) := sorry
theorem dX6_step_126 : decode cX6_step 126 = .ok (.iadd, 1) := sorry
theorem dX6_step_127 : decode cX6_step 127 = .ok (.bipush 48, 2) := sorry
theorem dX6_step_129 : decode cX6_step 129 = .ok (.isub, 1) := sorry
theorem dX6_step_130 : decode cX6_step 130 = .ok (.sipush 1001, 3) := sorry
theorem dX6_step_133 : decode cX6_step 133 = .ok (.invokestatic 27, 3) := sorry
theorem dX6_step_136 : decode cX6_step 136 = .ok (.goto 4, 3) := sorry
theorem dX6_step_80 : decode cX6_step 80 = .ok (.aload_n 0, 1) := sorry
theorem dX6_step_81 : decode cX6_step 81 = .ok (.getfield 67, 3) := sorry
theorem dX6_step_84 : decode cX6_step 84 = .ok (.iconst 3, 1) := sorry
theorem dX6_step_85 : decode cX6_step 85 = .ok (.if_icmp .eq 64, 3) := sorry
theorem dX6_step_10 : decode cX6_step 10 = .ok (.if_icmp .ge 20, 3) := sorry
theorem dX6_step_13 : decode cX6_step 13 = .ok (.aload_n 0, 1) := sorry
theorem dX6_step_14 : decode cX6_step 14 = .ok (.getfield 20, 3) := sorry
theorem dX6_step_17 : decode cX6_step 17 = .ok (.iload_n 1, 1) := sorry
theorem dX6_step_18 : decode cX6_step 18 = .ok (.iaload, 1) := sorry
theorem dX6_step_19 : decode cX6_step 19 = .ok (.bipush 32, 2) := sorry
theorem dX6_step_21 : decode cX6_step 21 = .ok (.if_icmp .ne 9, 3) := sorry
theorem dX6_step_24 : decode cX6_step 24 = .ok (.iinc 1 1, 3) := sorry
theorem dX6_step_27 : decode cX6_step 27 = .ok (.goto (-22), 3) := sorry
set_option maxHeartbeats 4000000 in
set_option maxRecDepth 100000 in
theorem k_X6_step (l : Launch) (D : va_G) (cy : Nat → ClassId) (ld : Nat → Nat) (t : tk_T) (a0 : Nat) (g9 : Int32) (ht_a0 : t a0 = (7, 0, 0)) (hp_0 : 0 ≤ g9.toInt) (hp_1 : g9.toInt ≤ 8) : Met l yX6_step (wl yX6_step cX6_step 3 none) ({ frames := 4, cells := 0, slots := 0, locals := 210 }) (tp D cy ld t [] [.ref a0] (fun H => tk_f D H a0 6 9 (.int g9))) (tv D cy ld t [] (fun H => tk_f D H a0 6 9 (.int g9)) (tk_w t [(7, 0, 0)])) 0 0 (tk_w t [(7, 0, 0)]) := by sorry
theorem dX6_goDeeper_0 : decode cX6_goDeeper 0 = .ok (.aload_n 0, 1) := sorry
theorem dX6_goDeeper_1 : decode cX6_goDeeper 1 = .ok (.getfield 47, 3) := sorry
theorem dX6_goDeeper_4 : decode cX6_goDeeper 4 = .ok (.bipush 8, 2) := sorry
theorem dX6_goDeeper_6 : decode cX6_goDeeper 6 = .ok (.if_icmp .lt 9, 3) := sorry
theorem dX6_goDeeper_15 : decode cX6_goDeeper 15 = .ok (.aload_n 0, 1) := sorry
theorem dX6_goDeeper_16 : decode cX6_goDeeper 16 = .ok (.dup, 1) := sorry
theorem dX6_goDeeper_17 : decode cX6_goDeeper 17 = .ok (.getfield 47, 3) := sorry
theorem dX6_goDeeper_20 : decode cX6_goDeeper 20 = .ok (.iconst 1, 1) := sorry
theorem dX6_goDeeper_21 : decode cX6_goDeeper 21 = .ok (.iadd, 1) := sorry
theorem dX6_goDeeper_22 : decode cX6_goDeeper 22 = .ok (.putfield 47, 3) := sorry
theorem dX6_goDeeper_25 : decode cX6_goDeeper 25 = .ok (.aload_n 0, 1) := sorry
theorem dX6_goDeeper_26 : decode cX6_goDeeper 26 = .ok (.invokevirtual 53, 3) := sorry
theorem dX6_goDeeper_29 : decode cX6_goDeeper 29 = .ok (.iconst 1, 1) := sorry
theorem dX6_goDeeper_30 : decode cX6_goDeeper 30 = .ok (.ireturn, 1) := sorry
set_option maxHeartbeats 4000000 in
set_option maxRecDepth 100000 in
theorem k_X6_goDeeper_0 (l : Launch) (D : va_G) (cy : Nat → ClassId) (ld : Nat → Nat) (t : tk_T) (a0 : Nat) (ht_a0 : t a0 = (7, 0, 0)) : Met l yX6_goDeeper (wl yX6_goDeeper cX6_goDeeper 1 (some .boolean)) ({ frames := 5, cells := 0, slots := 0, locals := 280 }) (tp D cy ld t [] [.ref a0] (fun H => tk_f D H a0 6 9 (.int 0))) (ti D cy ld t [] (fun r H => r.toInt + (-1) = 0 ∧ 0 ≤ r.toInt ∧ r.toInt ≤ 1 ∧ tk_f D H a0 6 9 (.int 1)) (tk_w t [(7, 0, 0)])) 0 0 (tk_w t [(7, 0, 0)]) := by sorry
theorem dX6_isSign_0 : decode cX6_isSign 0 = .ok (.aload_n 0, 1) := sorry
theorem dX6_isSign_1 : decode cX6_isSign 1 = .ok (.invokevirtual 56, 3) := sorry
theorem dX6_isSign_4 : decode cX6_isSign 4 = .ok (.ifCond .eq 28, 3) := sorry
theorem dX6_isSign_32 : decode cX6_isSign 32 = .ok (.iconst 0, 1) := sorry
theorem dX6_isSign_33 : decode cX6_isSign 33 = .ok (.ireturn, 1) := sorry
theorem dX6_isSign_7 : decode cX6_isSign 7 = .ok (.aload_n 0, 1) := sorry
theorem dX6_isSign_8 : decode cX6_isSign 8 = .ok (.getfield 67, 3) := sorry
theorem dX6_isSign_11 : decode cX6_isSign 11 = .ok (.iconst 3, 1) := sorry
theorem dX6_isSign_12 : decode cX6_isSign 12 = .ok (.if_icmp .ne 20, 3) := sorry
theorem dX6_isSign_15 : decode cX6_isSign 15 = .ok (.aload_n 0, 1) := sorry
theorem dX6_isSign_16 : decode cX6_isSign 16 = .ok (.getfield 20, 3) := sorry
theorem dX6_isSign_19 : decode cX6_isSign 19 = .ok (.aload_n 0, 1) := sorry
theorem dX6_isSign_20 : decode cX6_isSign 20 = .ok (.getfield 73, 3) := sorry
theorem dX6_isSign_23 : decode cX6_isSign 23 = .ok (.iaload, 1) := sorry
theorem dX6_isSign_24 : decode cX6_isSign 24 = .ok (.iload_n 1, 1) := sorry
theorem dX6_isSign_25 : decode cX6_isSign 25 = .ok (.if_icmp .ne 7, 3) := sorry
theorem dX6_isSign_28 : decode cX6_isSign 28 = .ok (.iconst 1, 1) := sorry
theorem dX6_isSign_29 : decode cX6_isSign 29 = .ok (.goto 4, 3) := sorry
set_option maxHeartbeats 4000000 in
set_option maxRecDepth 100000 in
theorem k_X6_isSign (l : Launch) (D : va_G) (cy : Nat → ClassId) (ld : Nat → Nat) (t : tk_T) (a0 : Nat) (p1 : Int32) (ht_a0 : t a0 = (7, 0, 0)) : Met l yX6_isSign (wl yX6_isSign cX6_isSign 2 (some .boolean)) ({ frames := 4, cells := 0, slots := 0, locals := 210 }) (tp D cy ld t [] [.ref a0, .int p1] (fun H => True)) (ti D cy ld t [] (fun r H => 0 ≤ r.toInt ∧ r.toInt ≤ 1 ∧ 0 ≤ r.toInt ∧ r.toInt ≤ 1) (tk_w t [])) 0 0 (tk_w t []) := by sorry
set_option maxHeartbeats 4000000 in
set_option maxRecDepth 100000 in
theorem k_J0_isLatin1_aae02_8 (l : Launch) (D : va_G) (cy : Nat → ClassId) (ld : Nat → Nat) (t : tk_T) : Met l yJ0_isLatin1_aae02 (wl yJ0_isLatin1_aae02 cJ0_isLatin1_aae02 1 (some .boolean)) ({ frames := 3, cells := 0, slots := 0, locals := 140 }) (tp D cy ld t [] [.ref (ld 8)] (fun H => True)) (ti D cy ld t [] (fun r H => r.toInt + (-1) = 0 ∧ 0 ≤ r.toInt ∧ r.toInt ≤ 1) (tk_w t [])) 0 0 (tk_w t []) := by sorry
set_option maxHeartbeats 4000000 in
set_option maxRecDepth 100000 in
theorem k_J1_charAt_3b067_8 (l : Launch) (D : va_G) (cy : Nat → ClassId) (ld : Nat → Nat) (t : tk_T) (p1 : Int32) (hp_0 : 0 ≤ p1.toInt) (hp_1 : p1.toInt ≤ 2) : Met l yJ1_charAt_3b067 (wl yJ1_charAt_3b067 cJ1_charAt_3b067 2 (some .char)) ({ frames := 5, cells := 0, slots := 0, locals := 280 }) (tp D cy ld t [] [.ref (ld 58), .int p1] (fun H => True)) (ti D cy ld t [] (fun r H => 0 ≤ r.toInt ∧ r.toInt ≤ 255) (tk_w t [])) 0 0 (tk_w t []) := by sorry
set_option maxHeartbeats 4000000 in
set_option maxRecDepth 100000 in
theorem k_J0_charAt_5068e_8 (l : Launch) (D : va_G) (cy : Nat → ClassId) (ld : Nat → Nat) (t : tk_T) (p1 : Int32) (hp_0 : 0 ≤ p1.toInt) (hp_1 : p1.toInt ≤ 2) : Met l yJ0_charAt_5068e (wl yJ0_charAt_5068e cJ0_charAt_5068e 2 (some .char)) ({ frames := 6, cells := 0, slots := 0, locals := 350 }) (tp D cy ld t [] [.ref (ld 8), .int p1] (fun H => True)) (ti D cy ld t [] (fun r H => 0 ≤ r.toInt ∧ r.toInt ≤ 255) (tk_w t [])) 0 0 (tk_w t []) := by sorry
set_option maxHeartbeats 4000000 in
set_option maxRecDepth 100000 in
theorem k_J0_coder_7d493_8 (l : Launch) (D : va_G) (cy : Nat → ClassId) (ld : Nat → Nat) (t : tk_T) : Met l yJ0_coder_7d493 (wl yJ0_coder_7d493 cJ0_coder_7d493 1 (some .byte)) ({ frames := 3, cells := 0, slots := 0, locals := 140 }) (tp D cy ld t [] [.ref (ld 8)] (fun H => True)) (ti D cy ld t [] (fun r H => r.toInt = 0) (tk_w t [])) 0 0 (tk_w t []) := by sorry
set_option maxHeartbeats 4000000 in
set_option maxRecDepth 100000 in
theorem k_J0_length_8abf5_8 (l : Launch) (D : va_G) (cy : Nat → ClassId) (ld : Nat → Nat) (t : tk_T) : Met l yJ0_length_8abf5 (wl yJ0_length_8abf5 cJ0_length_8abf5 1 (some .int)) ({ frames := 4, cells := 0, slots := 0, locals := 210 }) (tp D cy ld t [] [.ref (ld 8)] (fun H => True)) (ti D cy ld t [] (fun r H => r.toInt + (-3) = 0) (tk_w t [])) 0 0 (tk_w t []) := by sorry
set_option maxHeartbeats 4000000 in
set_option maxRecDepth 100000 in
theorem k_X6_isToken_8 (l : Launch) (D : va_G) (cy : Nat → ClassId) (ld : Nat → Nat) (t : tk_T) (a0 : Nat) (p2 : Int32) (p3 : Int32) (ht_a0 : t a0 = (7, 0, 0)) (hp_0 : 0 ≤ p2.toInt) (hp_1 : p2.toInt ≤ 3) (hp_2 : 0 ≤ p3.toInt) (hp_3 : p3.toInt ≤ 3) : Met l yX6_isToken (wl yX6_isToken cX6_isToken 5 (some .boolean)) ({ frames := 7, cells := 0, slots := 0, locals := 420 }) (tp D cy ld t [] [.ref a0, .ref (ld 8), .int p2, .int p3] (fun H => True)) (ti D cy ld t [] (fun r H => 0 ≤ r.toInt ∧ r.toInt ≤ 1 ∧ 0 ≤ r.toInt ∧ r.toInt ≤ 1) (tk_w t [])) 0 0 (tk_w t []) := by sorry
set_option maxHeartbeats 4000000 in
set_option maxRecDepth 100000 in
theorem k_X6_wordAmong_8 (l : Launch) (D : va_G) (cy : Nat → ClassId) (ld : Nat → Nat) (t : tk_T) (a0 : Nat) (ht_a0 : t a0 = (7, 0, 0)) : Met l yX6_wordAmong (wl yX6_wordAmong cX6_wordAmong 5 (some .int)) ({ frames := 8, cells := 0, slots := 0, locals := 490 }) (tp D cy ld t [] [.ref a0, .ref (ld 8)] (fun H => True)) (ti D cy ld t [] (fun r H => (-1) ≤ r.toInt ∧ r.toInt ≤ 3) (tk_w t [])) 0 0 (tk_w t []) := by sorry
set_option maxHeartbeats 4000000 in
set_option maxRecDepth 100000 in
theorem k_X6_isWord_8 (l : Launch) (D : va_G) (cy : Nat → ClassId) (ld : Nat → Nat) (t : tk_T) (a0 : Nat) (ht_a0 : t a0 = (7, 0, 0)) : Met l yX6_isWord (wl yX6_isWord cX6_isWord 2 (some .boolean)) ({ frames := 9, cells := 0, slots := 0, locals := 560 }) (tp D cy ld t [] [.ref a0, .ref (ld 8)] (fun H => True)) (ti D cy ld t [] (fun r H => 0 ≤ r.toInt ∧ r.toInt ≤ 1 ∧ 0 ≤ r.toInt ∧ r.toInt ≤ 1) (tk_w t [])) 0 0 (tk_w t []) := by sorry
end

section
theorem dX6_noteLawWord_0 : decode cX6_noteLawWord 0 = .ok (.aload_n 0, 1) := sorry
theorem dX6_noteLawWord_1 : decode cX6_noteLawWord 1 = .ok (.getfield 16, 3) := sorry
theorem dX6_noteLawWord_4 : decode cX6_noteLawWord 4 = .ok (.getfield 194, 3) := sorry
theorem dX6_noteLawWord_7 : decode cX6_noteLawWord 7 = .ok (.iconst 1, 1) := sorry
theorem dX6_noteLawWord_8 : decode cX6_noteLawWord 8 = .ok (.isub, 1) := sorry
theorem dX6_noteLawWord_9 : decode cX6_noteLawWord 9 = .ok (.istore_n 2, 1) := sorry
theorem dX6_noteLawWord_10 : decode cX6_noteLawWord 10 = .ok (.iload_n 1, 1) := sorry
theorem dX6_noteLawWord_11 : decode cX6_noteLawWord 11 = .ok (.iconst 5, 1) := sorry
theorem dX6_noteLawWord_39 : decode cX6_noteLawWord 39 = .ok (.iload_n 1, 1) := sorry
theorem dX6_noteLawWord_40 : decode cX6_noteLawWord 40 = .ok (.ireturn, 1) := sorry
theorem dX6_noteLawWord_12 : decode cX6_noteLawWord 12 = .ok (.if_icmp .ne 27, 3) := sorry
theorem dX6_noteLawWord_15 : decode cX6_noteLawWord 15 = .ok (.iload_n 2, 1) := sorry
theorem dX6_noteLawWord_16 : decode cX6_noteLawWord 16 = .ok (.ifCond .lt 23, 3) := sorry
theorem dX6_noteLawWord_19 : decode cX6_noteLawWord 19 = .ok (.aload_n 0, 1) := sorry
theorem dX6_noteLawWord_20 : decode cX6_noteLawWord 20 = .ok (.getfield 16, 3) := sorry
theorem dX6_noteLawWord_23 : decode cX6_noteLawWord 23 = .ok (.getfield 199, 3) := sorry
theorem dX6_noteLawWord_26 : decode cX6_noteLawWord 26 = .ok (.iload_n 2, 1) := sorry
theorem dX6_noteLawWord_27 : decode cX6_noteLawWord 27 = .ok (.iaload, 1) := sorry
theorem dX6_noteLawWord_28 : decode cX6_noteLawWord 28 = .ok (.ifCond .ne 11, 3) := sorry
theorem dX6_noteLawWord_31 : decode cX6_noteLawWord 31 = .ok (.aload_n 0, 1) := sorry
theorem dX6_noteLawWord_32 : decode cX6_noteLawWord 32 = .ok (.getfield 16, 3) := sorry
theorem dX6_noteLawWord_35 : decode cX6_noteLawWord 35 = .ok (.iconst 1, 1) := sorry
theorem dX6_noteLawWord_36 : decode cX6_noteLawWord 36 = .ok (.putfield 202, 3) := sorry
set_option maxHeartbeats 4000000 in
set_option maxRecDepth 100000 in
theorem k_X6_noteLawWord (l : Launch) (D : va_G) (cy : Nat → ClassId) (ld : Nat → Nat) (t : tk_T) (a0 : Nat) (p1 : Int32) (ht_a0 : t a0 = (7, 0, 0)) : Met l yX6_noteLawWord (wl yX6_noteLawWord cX6_noteLawWord 3 (some .int)) ({ frames := 3, cells := 0, slots := 0, locals := 140 }) (tp D cy ld t [] [.ref a0, .int p1] (fun H => True)) (ti D cy ld t [] (fun r H => True) (tk_w t [(8, 12, 12)])) 0 0 (tk_w t [(8, 12, 12)]) := by sorry
theorem dX6_readOwner_0 : decode cX6_readOwner 0 = .ok (.iload_n 1, 1) := sorry
theorem dX6_readOwner_1 : decode cX6_readOwner 1 = .ok (.iconst 5, 1) := sorry
theorem dX6_readOwner_10 : decode cX6_readOwner 10 = .ok (.istore_n 2, 1) := sorry
theorem dX6_readOwner_11 : decode cX6_readOwner 11 = .ok (.iload_n 2, 1) := sorry
theorem dX6_readOwner_12 : decode cX6_readOwner 12 = .ok (.ifCond .ne 11, 3) := sorry
theorem dX6_readOwner_23 : decode cX6_readOwner 23 = .ok (.aload_n 0, 1) := sorry
theorem dX6_readOwner_24 : decode cX6_readOwner 24 = .ok (.getfield 67, 3) := sorry
theorem dX6_readOwner_27 : decode cX6_readOwner 27 = .ok (.iconst 2, 1) := sorry
theorem dX6_readOwner_28 : decode cX6_readOwner 28 = .ok (.if_icmp .ne 20, 3) := sorry
theorem dX6_readOwner_48 : decode cX6_readOwner 48 = .ok (.aload_n 0, 1) := sorry
theorem dX6_readOwner_49 : decode cX6_readOwner 49 = .ok (.invokevirtual 60, 3) := sorry
theorem dX6_readOwner_52 : decode cX6_readOwner 52 = .ok (.iload_n 1, 1) := sorry
theorem dX6_readOwner_53 : decode cX6_readOwner 53 = .ok (.ireturn, 1) := sorry
theorem dX6_readOwner_31 : decode cX6_readOwner 31 = .ok (.aload_n 0, 1) := sorry
theorem dX6_readOwner_32 : decode cX6_readOwner 32 = .ok (.getfield 80, 3) := sorry
theorem dX6_readOwner_35 : decode cX6_readOwner 35 = .ok (.iload_n 2, 1) := sorry
theorem dX6_readOwner_36 : decode cX6_readOwner 36 = .ok (.ifCond .eq 8, 3) := sorry
theorem dX6_readOwner_39 : decode cX6_readOwner 39 = .ok (.bipush 7, 2) := sorry
theorem dX6_readOwner_41 : decode cX6_readOwner 41 = .ok (.goto 4, 3) := sorry
theorem dX6_readOwner_45 : decode cX6_readOwner 45 = .ok (.if_icmp .le 9, 3) := sorry
theorem dX6_readOwner_54 : decode cX6_readOwner 54 = .ok (.aload_n 0, 1) := sorry
theorem dX6_readOwner_55 : decode cX6_readOwner 55 = .ok (.getfield 80, 3) := sorry
theorem dX6_readOwner_58 : decode cX6_readOwner 58 = .ok (.istore_n 3, 1) := sorry
theorem dX6_readOwner_59 : decode cX6_readOwner 59 = .ok (.aload_n 0, 1) := sorry
theorem dX6_readOwner_60 : decode cX6_readOwner 60 = .ok (.invokevirtual 53, 3) := sorry
theorem dX6_readOwner_63 : decode cX6_readOwner 63 = .ok (.iload_n 2, 1) := sorry
theorem dX6_readOwner_64 : decode cX6_readOwner 64 = .ok (.ifCond .eq 7, 3) := sorry
theorem dX6_readOwner_67 : decode cX6_readOwner 67 = .ok (.iconst 5, 1) := sorry
theorem dX6_readOwner_68 : decode cX6_readOwner 68 = .ok (.goto 5, 3) := sorry
theorem dX6_readOwner_73 : decode cX6_readOwner 73 = .ok (.iload_n 3, 1) := sorry
theorem dX6_readOwner_74 : decode cX6_readOwner 74 = .ok (.iadd, 1) := sorry
theorem dX6_readOwner_75 : decode cX6_readOwner 75 = .ok (.ireturn, 1) := sorry
theorem dX6_readOwner_15 : decode cX6_readOwner 15 = .ok (.iload_n 1, 1) := sorry
theorem dX6_readOwner_16 : decode cX6_readOwner 16 = .ok (.bipush 6, 2) := sorry
theorem dX6_readOwner_18 : decode cX6_readOwner 18 = .ok (.if_icmp .eq 5, 3) := sorry
theorem dX6_readOwner_44 : decode cX6_readOwner 44 = .ok (.iconst 1, 1) := sorry
theorem dX6_readOwner_71 : decode cX6_readOwner 71 = .ok (.bipush 13, 2) := sorry
theorem dX6_readOwner_21 : decode cX6_readOwner 21 = .ok (.iload_n 1, 1) := sorry
theorem dX6_readOwner_22 : decode cX6_readOwner 22 = .ok (.ireturn, 1) := sorry
theorem dX6_readOwner_2 : decode cX6_readOwner 2 = .ok (.if_icmp .ne 7, 3) := sorry
theorem dX6_readOwner_9 : decode cX6_readOwner 9 = .ok (.iconst 0, 1) := sorry
theorem dX6_readOwner_5 : decode cX6_readOwner 5 = .ok (.iconst 1, 1) := sorry
theorem dX6_readOwner_6 : decode cX6_readOwner 6 = .ok (.goto 4, 3) := sorry
set_option maxHeartbeats 4000000 in
set_option maxRecDepth 100000 in
theorem k_X6_readOwner (l : Launch) (D : va_G) (cy : Nat → ClassId) (ld : Nat → Nat) (t : tk_T) (a0 : Nat) (p1 : Int32) (g9 : Int32) (ht_a0 : t a0 = (7, 0, 0)) (hp_0 : 0 ≤ g9.toInt) (hp_1 : g9.toInt ≤ 8) : Met l yX6_readOwner (wl yX6_readOwner cX6_readOwner 4 (some .int)) ({ frames := 5, cells := 0, slots := 0, locals := 280 }) (tp D cy ld t [] [.ref a0, .int p1] (fun H => tk_f D H a0 6 9 (.int g9))) (ti D cy ld t [] (fun r H => tk_f D H a0 6 9 (.int g9)) (tk_w t [(7, 0, 0)])) 0 0 (tk_w t [(7, 0, 0)]) := by sorry
set_option maxHeartbeats 4000000 in
set_option maxRecDepth 100000 in
theorem k_X6_goDeeper_1 (l : Launch) (D : va_G) (cy : Nat → ClassId) (ld : Nat → Nat) (t : tk_T) (a0 : Nat) (ht_a0 : t a0 = (7, 0, 0)) : Met l yX6_goDeeper (wl yX6_goDeeper cX6_goDeeper 1 (some .boolean)) ({ frames := 5, cells := 0, slots := 0, locals := 280 }) (tp D cy ld t [] [.ref a0] (fun H => tk_f D H a0 6 9 (.int 1))) (ti D cy ld t [] (fun r H => r.toInt + (-1) = 0 ∧ 0 ≤ r.toInt ∧ r.toInt ≤ 1 ∧ tk_f D H a0 6 9 (.int 2)) (tk_w t [(7, 0, 0)])) 0 0 (tk_w t [(7, 0, 0)]) := by sorry
set_option maxHeartbeats 4000000 in
set_option maxRecDepth 100000 in
theorem k_X6_goDeeper_2 (l : Launch) (D : va_G) (cy : Nat → ClassId) (ld : Nat → Nat) (t : tk_T) (a0 : Nat) (ht_a0 : t a0 = (7, 0, 0)) : Met l yX6_goDeeper (wl yX6_goDeeper cX6_goDeeper 1 (some .boolean)) ({ frames := 5, cells := 0, slots := 0, locals := 280 }) (tp D cy ld t [] [.ref a0] (fun H => tk_f D H a0 6 9 (.int 2))) (ti D cy ld t [] (fun r H => r.toInt + (-1) = 0 ∧ 0 ≤ r.toInt ∧ r.toInt ≤ 1 ∧ tk_f D H a0 6 9 (.int 3)) (tk_w t [(7, 0, 0)])) 0 0 (tk_w t [(7, 0, 0)]) := by sorry
set_option maxHeartbeats 4000000 in
set_option maxRecDepth 100000 in
theorem k_X6_goDeeper_3 (l : Launch) (D : va_G) (cy : Nat → ClassId) (ld : Nat → Nat) (t : tk_T) (a0 : Nat) (ht_a0 : t a0 = (7, 0, 0)) : Met l yX6_goDeeper (wl yX6_goDeeper cX6_goDeeper 1 (some .boolean)) ({ frames := 5, cells := 0, slots := 0, locals := 280 }) (tp D cy ld t [] [.ref a0] (fun H => tk_f D H a0 6 9 (.int 3))) (ti D cy ld t [] (fun r H => r.toInt + (-1) = 0 ∧ 0 ≤ r.toInt ∧ r.toInt ≤ 1 ∧ tk_f D H a0 6 9 (.int 4)) (tk_w t [(7, 0, 0)])) 0 0 (tk_w t [(7, 0, 0)]) := by sorry
set_option maxHeartbeats 4000000 in
set_option maxRecDepth 100000 in
theorem k_X6_goDeeper_4 (l : Launch) (D : va_G) (cy : Nat → ClassId) (ld : Nat → Nat) (t : tk_T) (a0 : Nat) (ht_a0 : t a0 = (7, 0, 0)) : Met l yX6_goDeeper (wl yX6_goDeeper cX6_goDeeper 1 (some .boolean)) ({ frames := 5, cells := 0, slots := 0, locals := 280 }) (tp D cy ld t [] [.ref a0] (fun H => tk_f D H a0 6 9 (.int 4))) (ti D cy ld t [] (fun r H => r.toInt + (-1) = 0 ∧ 0 ≤ r.toInt ∧ r.toInt ≤ 1 ∧ tk_f D H a0 6 9 (.int 5)) (tk_w t [(7, 0, 0)])) 0 0 (tk_w t [(7, 0, 0)]) := by sorry
set_option maxHeartbeats 4000000 in
set_option maxRecDepth 100000 in
theorem k_X6_goDeeper_5 (l : Launch) (D : va_G) (cy : Nat → ClassId) (ld : Nat → Nat) (t : tk_T) (a0 : Nat) (ht_a0 : t a0 = (7, 0, 0)) : Met l yX6_goDeeper (wl yX6_goDeeper cX6_goDeeper 1 (some .boolean)) ({ frames := 5, cells := 0, slots := 0, locals := 280 }) (tp D cy ld t [] [.ref a0] (fun H => tk_f D H a0 6 9 (.int 5))) (ti D cy ld t [] (fun r H => r.toInt + (-1) = 0 ∧ 0 ≤ r.toInt ∧ r.toInt ≤ 1 ∧ tk_f D H a0 6 9 (.int 6)) (tk_w t [(7, 0, 0)])) 0 0 (tk_w t [(7, 0, 0)]) := by sorry
set_option maxHeartbeats 4000000 in
set_option maxRecDepth 100000 in
theorem k_X6_goDeeper_6 (l : Launch) (D : va_G) (cy : Nat → ClassId) (ld : Nat → Nat) (t : tk_T) (a0 : Nat) (ht_a0 : t a0 = (7, 0, 0)) : Met l yX6_goDeeper (wl yX6_goDeeper cX6_goDeeper 1 (some .boolean)) ({ frames := 5, cells := 0, slots := 0, locals := 280 }) (tp D cy ld t [] [.ref a0] (fun H => tk_f D H a0 6 9 (.int 6))) (ti D cy ld t [] (fun r H => r.toInt + (-1) = 0 ∧ 0 ≤ r.toInt ∧ r.toInt ≤ 1 ∧ tk_f D H a0 6 9 (.int 7)) (tk_w t [(7, 0, 0)])) 0 0 (tk_w t [(7, 0, 0)]) := by sorry
set_option maxHeartbeats 4000000 in
set_option maxRecDepth 100000 in
theorem k_X6_goDeeper_7 (l : Launch) (D : va_G) (cy : Nat → ClassId) (ld : Nat → Nat) (t : tk_T) (a0 : Nat) (ht_a0 : t a0 = (7, 0, 0)) : Met l yX6_goDeeper (wl yX6_goDeeper cX6_goDeeper 1 (some .boolean)) ({ frames := 5, cells := 0, slots := 0, locals := 280 }) (tp D cy ld t [] [.ref a0] (fun H => tk_f D H a0 6 9 (.int 7))) (ti D cy ld t [] (fun r H => r.toInt + (-1) = 0 ∧ 0 ≤ r.toInt ∧ r.toInt ≤ 1 ∧ tk_f D H a0 6 9 (.int 8)) (tk_w t [(7, 0, 0)])) 0 0 (tk_w t [(7, 0, 0)]) := by sorry
theorem dX6_goDeeper_9 : decode cX6_goDeeper 9 = .ok (.aload_n 0, 1) := sorry
theorem dX6_goDeeper_10 : decode cX6_goDeeper 10 = .ok (.invokevirtual 60, 3) := sorry
theorem dX6_goDeeper_13 : decode cX6_goDeeper 13 = .ok (.iconst 0, 1) := sorry
theorem dX6_goDeeper_14 : decode cX6_goDeeper 14 = .ok (.ireturn, 1) := sorry
set_option maxHeartbeats 4000000 in
set_option maxRecDepth 100000 in
theorem k_X6_goDeeper_8 (l : Launch) (D : va_G) (cy : Nat → ClassId) (ld : Nat → Nat) (t : tk_T) (a0 : Nat) (ht_a0 : t a0 = (7, 0, 0)) : Met l yX6_goDeeper (wl yX6_goDeeper cX6_goDeeper 1 (some .boolean)) ({ frames := 4, cells := 0, slots := 0, locals := 210 }) (tp D cy ld t [] [.ref a0] (fun H => tk_f D H a0 6 9 (.int 8))) (ti D cy ld t [] (fun r H => r.toInt = 0 ∧ 0 ≤ r.toInt ∧ r.toInt ≤ 1 ∧ tk_f D H a0 6 9 (.int 8)) (tk_w t [(7, 0, 0)])) 0 0 (tk_w t [(7, 0, 0)]) := by sorry
set_option maxHeartbeats 4000000 in
set_option maxRecDepth 100000 in
theorem k_J0_isLatin1_aae02_2 (l : Launch) (D : va_G) (cy : Nat → ClassId) (ld : Nat → Nat) (t : tk_T) : Met l yJ0_isLatin1_aae02 (wl yJ0_isLatin1_aae02 cJ0_isLatin1_aae02 1 (some .boolean)) ({ frames := 3, cells := 0, slots := 0, locals := 140 }) (tp D cy ld t [] [.ref (ld 2)] (fun H => True)) (ti D cy ld t [] (fun r H => r.toInt + (-1) = 0 ∧ 0 ≤ r.toInt ∧ r.toInt ≤ 1) (tk_w t [])) 0 0 (tk_w t []) := by sorry
set_option maxHeartbeats 4000000 in
set_option maxRecDepth 100000 in
theorem k_J1_charAt_3b067_2 (l : Launch) (D : va_G) (cy : Nat → ClassId) (ld : Nat → Nat) (t : tk_T) (p1 : Int32) (hp_0 : 0 ≤ p1.toInt) (hp_1 : p1.toInt ≤ 46) : Met l yJ1_charAt_3b067 (wl yJ1_charAt_3b067 cJ1_charAt_3b067 2 (some .char)) ({ frames := 5, cells := 0, slots := 0, locals := 280 }) (tp D cy ld t [] [.ref (ld 52), .int p1] (fun H => True)) (ti D cy ld t [] (fun r H => 0 ≤ r.toInt ∧ r.toInt ≤ 255) (tk_w t [])) 0 0 (tk_w t []) := by sorry
set_option maxHeartbeats 4000000 in
set_option maxRecDepth 100000 in
theorem k_J0_charAt_5068e_2 (l : Launch) (D : va_G) (cy : Nat → ClassId) (ld : Nat → Nat) (t : tk_T) (p1 : Int32) (hp_0 : 0 ≤ p1.toInt) (hp_1 : p1.toInt ≤ 46) : Met l yJ0_charAt_5068e (wl yJ0_charAt_5068e cJ0_charAt_5068e 2 (some .char)) ({ frames := 6, cells := 0, slots := 0, locals := 350 }) (tp D cy ld t [] [.ref (ld 2), .int p1] (fun H => True)) (ti D cy ld t [] (fun r H => 0 ≤ r.toInt ∧ r.toInt ≤ 255) (tk_w t [])) 0 0 (tk_w t []) := by sorry
set_option maxHeartbeats 4000000 in
set_option maxRecDepth 100000 in
theorem k_J0_coder_7d493_2 (l : Launch) (D : va_G) (cy : Nat → ClassId) (ld : Nat → Nat) (t : tk_T) : Met l yJ0_coder_7d493 (wl yJ0_coder_7d493 cJ0_coder_7d493 1 (some .byte)) ({ frames := 3, cells := 0, slots := 0, locals := 140 }) (tp D cy ld t [] [.ref (ld 2)] (fun H => True)) (ti D cy ld t [] (fun r H => r.toInt = 0) (tk_w t [])) 0 0 (tk_w t []) := by sorry
set_option maxHeartbeats 4000000 in
set_option maxRecDepth 100000 in
theorem k_J0_length_8abf5_2 (l : Launch) (D : va_G) (cy : Nat → ClassId) (ld : Nat → Nat) (t : tk_T) : Met l yJ0_length_8abf5 (wl yJ0_length_8abf5 cJ0_length_8abf5 1 (some .int)) ({ frames := 4, cells := 0, slots := 0, locals := 210 }) (tp D cy ld t [] [.ref (ld 2)] (fun H => True)) (ti D cy ld t [] (fun r H => r.toInt + (-47) = 0) (tk_w t [])) 0 0 (tk_w t []) := by sorry
set_option maxHeartbeats 4000000 in
set_option maxRecDepth 100000 in
theorem k_X6_isToken_2 (l : Launch) (D : va_G) (cy : Nat → ClassId) (ld : Nat → Nat) (t : tk_T) (a0 : Nat) (p2 : Int32) (p3 : Int32) (ht_a0 : t a0 = (7, 0, 0)) (hp_0 : 0 ≤ p2.toInt) (hp_1 : p2.toInt ≤ 47) (hp_2 : 0 ≤ p3.toInt) (hp_3 : p3.toInt ≤ 47) : Met l yX6_isToken (wl yX6_isToken cX6_isToken 5 (some .boolean)) ({ frames := 7, cells := 0, slots := 0, locals := 420 }) (tp D cy ld t [] [.ref a0, .ref (ld 2), .int p2, .int p3] (fun H => True)) (ti D cy ld t [] (fun r H => 0 ≤ r.toInt ∧ r.toInt ≤ 1 ∧ 0 ≤ r.toInt ∧ r.toInt ≤ 1) (tk_w t [])) 0 0 (tk_w t []) := by sorry
set_option maxHeartbeats 4000000 in
set_option maxRecDepth 100000 in
theorem k_X6_wordAmong_2 (l : Launch) (D : va_G) (cy : Nat → ClassId) (ld : Nat → Nat) (t : tk_T) (a0 : Nat) (ht_a0 : t a0 = (7, 0, 0)) : Met l yX6_wordAmong (wl yX6_wordAmong cX6_wordAmong 5 (some .int)) ({ frames := 8, cells := 0, slots := 0, locals := 490 }) (tp D cy ld t [] [.ref a0, .ref (ld 2)] (fun H => True)) (ti D cy ld t [] (fun r H => (-1) ≤ r.toInt ∧ r.toInt ≤ 48) (tk_w t [])) 0 0 (tk_w t []) := by sorry
set_option maxHeartbeats 4000000 in
set_option maxRecDepth 100000 in
theorem k_J0_isLatin1_aae02_3 (l : Launch) (D : va_G) (cy : Nat → ClassId) (ld : Nat → Nat) (t : tk_T) : Met l yJ0_isLatin1_aae02 (wl yJ0_isLatin1_aae02 cJ0_isLatin1_aae02 1 (some .boolean)) ({ frames := 3, cells := 0, slots := 0, locals := 140 }) (tp D cy ld t [] [.ref (ld 3)] (fun H => True)) (ti D cy ld t [] (fun r H => r.toInt + (-1) = 0 ∧ 0 ≤ r.toInt ∧ r.toInt ≤ 1) (tk_w t [])) 0 0 (tk_w t []) := by sorry
set_option maxHeartbeats 4000000 in
set_option maxRecDepth 100000 in
theorem k_J1_charAt_3b067_3 (l : Launch) (D : va_G) (cy : Nat → ClassId) (ld : Nat → Nat) (t : tk_T) (p1 : Int32) (hp_0 : 0 ≤ p1.toInt) (hp_1 : p1.toInt ≤ 32) : Met l yJ1_charAt_3b067 (wl yJ1_charAt_3b067 cJ1_charAt_3b067 2 (some .char)) ({ frames := 5, cells := 0, slots := 0, locals := 280 }) (tp D cy ld t [] [.ref (ld 53), .int p1] (fun H => True)) (ti D cy ld t [] (fun r H => 0 ≤ r.toInt ∧ r.toInt ≤ 255) (tk_w t [])) 0 0 (tk_w t []) := by sorry
set_option maxHeartbeats 4000000 in
set_option maxRecDepth 100000 in
theorem k_J0_charAt_5068e_3 (l : Launch) (D : va_G) (cy : Nat → ClassId) (ld : Nat → Nat) (t : tk_T) (p1 : Int32) (hp_0 : 0 ≤ p1.toInt) (hp_1 : p1.toInt ≤ 32) : Met l yJ0_charAt_5068e (wl yJ0_charAt_5068e cJ0_charAt_5068e 2 (some .char)) ({ frames := 6, cells := 0, slots := 0, locals := 350 }) (tp D cy ld t [] [.ref (ld 3), .int p1] (fun H => True)) (ti D cy ld t [] (fun r H => 0 ≤ r.toInt ∧ r.toInt ≤ 255) (tk_w t [])) 0 0 (tk_w t []) := by sorry
set_option maxHeartbeats 4000000 in
set_option maxRecDepth 100000 in
theorem k_J0_coder_7d493_3 (l : Launch) (D : va_G) (cy : Nat → ClassId) (ld : Nat → Nat) (t : tk_T) : Met l yJ0_coder_7d493 (wl yJ0_coder_7d493 cJ0_coder_7d493 1 (some .byte)) ({ frames := 3, cells := 0, slots := 0, locals := 140 }) (tp D cy ld t [] [.ref (ld 3)] (fun H => True)) (ti D cy ld t [] (fun r H => r.toInt = 0) (tk_w t [])) 0 0 (tk_w t []) := by sorry
set_option maxHeartbeats 4000000 in
set_option maxRecDepth 100000 in
theorem k_J0_length_8abf5_3 (l : Launch) (D : va_G) (cy : Nat → ClassId) (ld : Nat → Nat) (t : tk_T) : Met l yJ0_length_8abf5 (wl yJ0_length_8abf5 cJ0_length_8abf5 1 (some .int)) ({ frames := 4, cells := 0, slots := 0, locals := 210 }) (tp D cy ld t [] [.ref (ld 3)] (fun H => True)) (ti D cy ld t [] (fun r H => r.toInt + (-33) = 0) (tk_w t [])) 0 0 (tk_w t []) := by sorry
set_option maxHeartbeats 4000000 in
set_option maxRecDepth 100000 in
theorem k_X6_isToken_3 (l : Launch) (D : va_G) (cy : Nat → ClassId) (ld : Nat → Nat) (t : tk_T) (a0 : Nat) (p2 : Int32) (p3 : Int32) (ht_a0 : t a0 = (7, 0, 0)) (hp_0 : 0 ≤ p2.toInt) (hp_1 : p2.toInt ≤ 33) (hp_2 : 0 ≤ p3.toInt) (hp_3 : p3.toInt ≤ 33) : Met l yX6_isToken (wl yX6_isToken cX6_isToken 5 (some .boolean)) ({ frames := 7, cells := 0, slots := 0, locals := 420 }) (tp D cy ld t [] [.ref a0, .ref (ld 3), .int p2, .int p3] (fun H => True)) (ti D cy ld t [] (fun r H => 0 ≤ r.toInt ∧ r.toInt ≤ 1 ∧ 0 ≤ r.toInt ∧ r.toInt ≤ 1) (tk_w t [])) 0 0 (tk_w t []) := by sorry
set_option maxHeartbeats 4000000 in
set_option maxRecDepth 100000 in
theorem k_X6_wordAmong_3 (l : Launch) (D : va_G) (cy : Nat → ClassId) (ld : Nat → Nat) (t : tk_T) (a0 : Nat) (ht_a0 : t a0 = (7, 0, 0)) : Met l yX6_wordAmong (wl yX6_wordAmong cX6_wordAmong 5 (some .int)) ({ frames := 8, cells := 0, slots := 0, locals := 490 }) (tp D cy ld t [] [.ref a0, .ref (ld 3)] (fun H => True)) (ti D cy ld t [] (fun r H => (-1) ≤ r.toInt ∧ r.toInt ≤ 33) (tk_w t [])) 0 0 (tk_w t []) := by sorry
theorem dX7_put_0 : decode cX7_put 0 = .ok (.aload_n 0, 1) := sorry
theorem dX7_put_1 : decode cX7_put 1 = .ok (.getfield 30, 3) := sorry
theorem dX7_put_4 : decode cX7_put 4 = .ok (.aload_n 0, 1) := sorry
theorem dX7_put_5 : decode cX7_put 5 = .ok (.getfield 9, 3) := sorry
theorem dX7_put_8 : decode cX7_put 8 = .ok (.arraylength, 1) := sorry
theorem dX7_put_9 : decode cX7_put 9 = .ok (.if_icmp .ge 33, 3) := sorry
theorem dX7_put_42 : decode cX7_put 42 = .ok (.return_, 1) := sorry
theorem dX7_put_12 : decode cX7_put 12 = .ok (.aload_n 0, 1) := sorry
theorem dX7_put_13 : decode cX7_put 13 = .ok (.getfield 9, 3) := sorry
theorem dX7_put_16 : decode cX7_put 16 = .ok (.aload_n 0, 1) := sorry
theorem dX7_put_17 : decode cX7_put 17 = .ok (.getfield 30, 3) := sorry
theorem dX7_put_20 : decode cX7_put 20 = .ok (.iload_n 1, 1) := sorry
theorem dX7_put_21 : decode cX7_put 21 = .ok (.iastore, 1) := sorry
theorem dX7_put_22 : decode cX7_put 22 = .ok (.aload_n 0, 1) := sorry
theorem dX7_put_23 : decode cX7_put 23 = .ok (.getfield 15, 3) := sorry
theorem dX7_put_26 : decode cX7_put 26 = .ok (.aload_n 0, 1) := sorry
theorem dX7_put_27 : decode cX7_put 27 = .ok (.getfield 30, 3) := sorry
theorem dX7_put_30 : decode cX7_put 30 = .ok (.iload_n 2, 1) := sorry
theorem dX7_put_31 : decode cX7_put 31 = .ok (.iastore, 1) := sorry
theorem dX7_put_32 : decode cX7_put 32 = .ok (.aload_n 0, 1) := sorry
theorem dX7_put_33 : decode cX7_put 33 = .ok (.dup, 1) := sorry
theorem dX7_put_34 : decode cX7_put 34 = .ok (.getfield 30, 3) := sorry
theorem dX7_put_37 : decode cX7_put 37 = .ok (.iconst 1, 1) := sorry
theorem dX7_put_38 : decode cX7_put 38 = .ok (.iadd, 1) := sorry
theorem dX7_put_39 : decode cX7_put 39 = .ok (.putfield 30, 3) := sorry
set_option maxHeartbeats 4000000 in
set_option maxRecDepth 100000 in
theorem k_X7_put (l : Launch) (D : va_G) (cy : Nat → ClassId) (ld : Nat → Nat) (t : tk_T) (a0 : Nat) (p1 : Int32) (p2 : Int32) (ht_a0 : t a0 = (8, 512, 12)) : Met l yX7_put (wl yX7_put cX7_put 3 none) ({ frames := 3, cells := 0, slots := 0, locals := 140 }) (tp D cy ld t [] [.ref a0, .int p1, .int p2] (fun H => True)) (tv D cy ld t [] (fun H => True) (tk_w t [(20, 0, 0), (8, 12, 12)])) 0 0 (tk_w t [(20, 0, 0), (8, 12, 12)]) := by sorry
theorem dX6_readPart_0 : decode cX6_readPart 0 = .ok (.aload_n 0, 1) := sorry
theorem dX6_readPart_1 : decode cX6_readPart 1 = .ok (.bipush 91, 2) := sorry
theorem dX6_readPart_3 : decode cX6_readPart 3 = .ok (.invokevirtual 83, 3) := sorry
theorem dX6_readPart_6 : decode cX6_readPart 6 = .ok (.ifCond .eq 31, 3) := sorry
theorem dX6_readPart_37 : decode cX6_readPart 37 = .ok (.aload_n 0, 1) := sorry
theorem dX6_readPart_38 : decode cX6_readPart 38 = .ok (.invokevirtual 56, 3) := sorry
theorem dX6_readPart_67 : decode cX6_readPart 67 = .ok (.istore_n 1, 1) := sorry
theorem dX6_readPart_68 : decode cX6_readPart 68 = .ok (.aload_n 0, 1) := sorry
theorem dX6_readPart_69 : decode cX6_readPart 69 = .ok (.aload_n 0, 1) := sorry
theorem dX6_readPart_70 : decode cX6_readPart 70 = .ok (.getfield 37, 3) := sorry
theorem dX6_readPart_73 : decode cX6_readPart 73 = .ok (.ifCond .eq 8, 3) := sorry
theorem dX6_readPart_81 : decode cX6_readPart 81 = .ok (.ldc 186, 2) := sorry
theorem dX6_readPart_83 : decode cX6_readPart 83 = .ok (.invokevirtual 100, 3) := sorry
theorem dX6_readPart_86 : decode cX6_readPart 86 = .ok (.istore_n 2, 1) := sorry
theorem dX6_readPart_87 : decode cX6_readPart 87 = .ok (.iload_n 1, 1) := sorry
theorem dX6_readPart_88 : decode cX6_readPart 88 = .ok (.ifCond .ne 8, 3) := sorry
theorem dX6_readPart_96 : decode cX6_readPart 96 = .ok (.aload_n 0, 1) := sorry
theorem dX6_readPart_97 : decode cX6_readPart 97 = .ok (.getfield 44, 3) := sorry
theorem dX6_readPart_100 : decode cX6_readPart 100 = .ok (.bipush 50, 2) := sorry
theorem dX6_readPart_102 : decode cX6_readPart 102 = .ok (.if_icmp .lt 8, 3) := sorry
theorem dX6_readPart_110 : decode cX6_readPart 110 = .ok (.aload_n 0, 1) := sorry
theorem dX6_readPart_111 : decode cX6_readPart 111 = .ok (.dup, 1) := sorry
theorem dX6_readPart_112 : decode cX6_readPart 112 = .ok (.getfield 44, 3) := sorry
theorem dX6_readPart_115 : decode cX6_readPart 115 = .ok (.iconst 1, 1) := sorry
theorem dX6_readPart_116 : decode cX6_readPart 116 = .ok (.iadd, 1) := sorry
theorem dX6_readPart_117 : decode cX6_readPart 117 = .ok (.putfield 44, 3) := sorry
theorem dX6_readPart_120 : decode cX6_readPart 120 = .ok (.iload_n 1, 1) := sorry
theorem dX6_readPart_121 : decode cX6_readPart 121 = .ok (.ifCond .eq 22, 3) := sorry
theorem dX6_readPart_124 : decode cX6_readPart 124 = .ok (.aload_n 0, 1) := sorry
theorem dX6_readPart_125 : decode cX6_readPart 125 = .ok (.getfield 16, 3) := sorry
theorem dX6_readPart_128 : decode cX6_readPart 128 = .ok (.iconst 1, 1) := sorry
theorem dX6_readPart_129 : decode cX6_readPart 129 = .ok (.aload_n 0, 1) := sorry
theorem dX6_readPart_130 : decode cX6_readPart 130 = .ok (.getfield 80, 3) := sorry
theorem dX6_readPart_133 : decode cX6_readPart 133 = .ok (.invokevirtual 140, 3) := sorry
theorem dX6_readPart_136 : decode cX6_readPart 136 = .ok (.aload_n 0, 1) := sorry
theorem dX6_readPart_137 : decode cX6_readPart 137 = .ok (.invokevirtual 53, 3) := sorry
theorem dX6_readPart_140 : decode cX6_readPart 140 = .ok (.goto 35, 3) := sorry
theorem dX6_readPart_175 : decode cX6_readPart 175 = .ok (.return_, 1) := sorry
theorem dX6_readPart_105 : decode cX6_readPart 105 = .ok (.aload_n 0, 1) := sorry
theorem dX6_readPart_106 : decode cX6_readPart 106 = .ok (.invokevirtual 60, 3) := sorry
theorem dX6_readPart_109 : decode cX6_readPart 109 = .ok (.return_, 1) := sorry
theorem dX6_readPart_91 : decode cX6_readPart 91 = .ok (.iload_n 2, 1) := sorry
theorem dX6_readPart_92 : decode cX6_readPart 92 = .ok (.iconst (-1), 1) := sorry
theorem dX6_readPart_93 : decode cX6_readPart 93 = .ok (.if_icmp .eq 12, 3) := sorry
theorem dX6_readPart_143 : decode cX6_readPart 143 = .ok (.aload_n 0, 1) := sorry
theorem dX6_readPart_144 : decode cX6_readPart 144 = .ok (.invokevirtual 53, 3) := sorry
theorem dX6_readPart_147 : decode cX6_readPart 147 = .ok (.aload_n 0, 1) := sorry
theorem dX6_readPart_148 : decode cX6_readPart 148 = .ok (.getfield 16, 3) := sorry
theorem dX6_readPart_151 : decode cX6_readPart 151 = .ok (.iconst 2, 1) := sorry
theorem dX6_readPart_152 : decode cX6_readPart 152 = .ok (.aload_n 0, 1) := sorry
theorem dX6_readPart_153 : decode cX6_readPart 153 = .ok (.getfield 37, 3) := sorry
theorem dX6_readPart_172 : decode cX6_readPart 172 = .ok (.invokevirtual 140, 3) := sorry
theorem dX6_readPart_156 : decode cX6_readPart 156 = .ok (.ifCond .eq 11, 3) := sorry
theorem dX6_readPart_167 : decode cX6_readPart 167 = .ok (.aload_n 0, 1) := sorry
theorem dX6_readPart_168 : decode cX6_readPart 168 = .ok (.iload_n 2, 1) := sorry
theorem dX6_readPart_169 : decode cX6_readPart 169 = .ok (.invokevirtual 191, 3) := sorry
theorem dX6_readPart_159 : decode cX6_readPart 159 = .ok (.aload_n 0, 1) := sorry
theorem dX6_readPart_160 : decode cX6_readPart 160 = .ok (.iload_n 2, 1) := sorry
theorem dX6_readPart_161 : decode cX6_readPart 161 = .ok (.invokevirtual 188, 3) := sorry
theorem dX6_readPart_164 : decode cX6_readPart 164 = .ok (.goto 8, 3) := sorry
theorem dX6_readPart_76 : decode cX6_readPart 76 = .ok (.ldc 184, 2) := sorry
theorem dX6_readPart_78 : decode cX6_readPart 78 = .ok (.goto 5, 3) := sorry
theorem dX6_readPart_41 : decode cX6_readPart 41 = .ok (.ifCond .eq 25, 3) := sorry
theorem dX6_readPart_66 : decode cX6_readPart 66 = .ok (.iconst 0, 1) := sorry
theorem dX6_readPart_44 : decode cX6_readPart 44 = .ok (.aload_n 0, 1) := sorry
theorem dX6_readPart_45 : decode cX6_readPart 45 = .ok (.getfield 67, 3) := sorry
theorem dX6_readPart_48 : decode cX6_readPart 48 = .ok (.iconst 2, 1) := sorry
theorem dX6_readPart_49 : decode cX6_readPart 49 = .ok (.if_icmp .ne 17, 3) := sorry
theorem dX6_readPart_52 : decode cX6_readPart 52 = .ok (.aload_n 0, 1) := sorry
theorem dX6_readPart_53 : decode cX6_readPart 53 = .ok (.getfield 80, 3) := sorry
theorem dX6_readPart_56 : decode cX6_readPart 56 = .ok (.sipush 1000, 3) := sorry
theorem dX6_readPart_59 : decode cX6_readPart 59 = .ok (.if_icmp .gt 7, 3) := sorry
theorem dX6_readPart_62 : decode cX6_readPart 62 = .ok (.iconst 1, 1) := sorry
theorem dX6_readPart_63 : decode cX6_readPart 63 = .ok (.goto 4, 3) := sorry
theorem dX6_readPart_9 : decode cX6_readPart 9 = .ok (.aload_n 0, 1) := sorry
theorem dX6_readPart_10 : decode cX6_readPart 10 = .ok (.invokevirtual 175, 3) := sorry
theorem dX6_readPart_13 : decode cX6_readPart 13 = .ok (.ifCond .eq 23, 3) := sorry
theorem dX6_readPart_36 : decode cX6_readPart 36 = .ok (.return_, 1) := sorry
set_option maxHeartbeats 4000000 in
set_option maxRecDepth 100000 in
theorem k_X6_readPart_8 (l : Launch) (D : va_G) (cy : Nat → ClassId) (ld : Nat → Nat) (t : tk_T) (a0 : Nat) (ht_a0 : t a0 = (7, 0, 0)) : Met l yX6_readPart (wl yX6_readPart cX6_readPart 3 none) ({ frames := 9, cells := 0, slots := 0, locals := 560 }) (tp D cy ld t [] [.ref a0] (fun H => tk_f D H a0 6 9 (.int 8))) (tv D cy ld t [] (fun H => tk_f D H a0 6 9 (.int 8)) (tk_w t [(7, 0, 0), (20, 0, 0), (8, 12, 12)])) 0 0 (tk_w t [(7, 0, 0), (20, 0, 0), (8, 12, 12)]) := by sorry
theorem dX6_readTerm_0 : decode cX6_readTerm 0 = .ok (.aload_n 0, 1) := sorry
theorem dX6_readTerm_1 : decode cX6_readTerm 1 = .ok (.invokevirtual 181, 3) := sorry
theorem dX6_readTerm_4 : decode cX6_readTerm 4 = .ok (.iconst 0, 1) := sorry
theorem dX6_readTerm_5 : decode cX6_readTerm 5 = .ok (.istore_n 1, 1) := sorry
theorem dX6_readTerm_6 : decode cX6_readTerm 6 = .ok (.iload_n 1, 1) := sorry
theorem dX6_readTerm_7 : decode cX6_readTerm 7 = .ok (.sipush 400, 3) := sorry
theorem dX6_readTerm_10 : decode cX6_readTerm 10 = .ok (.if_icmp .ge 84, 3) := sorry
theorem dX6_readTerm_94 : decode cX6_readTerm 94 = .ok (.return_, 1) := sorry
theorem dX6_readTerm_13 : decode cX6_readTerm 13 = .ok (.aload_n 0, 1) := sorry
theorem dX6_readTerm_14 : decode cX6_readTerm 14 = .ok (.bipush 42, 2) := sorry
theorem dX6_readTerm_16 : decode cX6_readTerm 16 = .ok (.invokevirtual 83, 3) := sorry
theorem dX6_readTerm_19 : decode cX6_readTerm 19 = .ok (.ifCond .ne 21, 3) := sorry
theorem dX6_readTerm_40 : decode cX6_readTerm 40 = .ok (.aload_n 0, 1) := sorry
theorem dX6_readTerm_41 : decode cX6_readTerm 41 = .ok (.bipush 42, 2) := sorry
theorem dX6_readTerm_43 : decode cX6_readTerm 43 = .ok (.invokevirtual 83, 3) := sorry
theorem dX6_readTerm_70 : decode cX6_readTerm 70 = .ok (.istore_n 2, 1) := sorry
theorem dX6_readTerm_71 : decode cX6_readTerm 71 = .ok (.aload_n 0, 1) := sorry
theorem dX6_readTerm_72 : decode cX6_readTerm 72 = .ok (.invokevirtual 53, 3) := sorry
theorem dX6_readTerm_75 : decode cX6_readTerm 75 = .ok (.aload_n 0, 1) := sorry
theorem dX6_readTerm_76 : decode cX6_readTerm 76 = .ok (.invokevirtual 181, 3) := sorry
theorem dX6_readTerm_79 : decode cX6_readTerm 79 = .ok (.aload_n 0, 1) := sorry
theorem dX6_readTerm_80 : decode cX6_readTerm 80 = .ok (.getfield 16, 3) := sorry
theorem dX6_readTerm_83 : decode cX6_readTerm 83 = .ok (.iload_n 2, 1) := sorry
theorem dX6_readTerm_84 : decode cX6_readTerm 84 = .ok (.iconst 0, 1) := sorry
theorem dX6_readTerm_85 : decode cX6_readTerm 85 = .ok (.invokevirtual 140, 3) := sorry
theorem dX6_readTerm_88 : decode cX6_readTerm 88 = .ok (.iinc 1 1, 3) := sorry
theorem dX6_readTerm_91 : decode cX6_readTerm 91 = .ok (.goto (-85), 3) := sorry
theorem dX6_readTerm_46 : decode cX6_readTerm 46 = .ok (.ifCond .eq 8, 3) := sorry
theorem dX6_readTerm_54 : decode cX6_readTerm 54 = .ok (.aload_n 0, 1) := sorry
theorem dX6_readTerm_55 : decode cX6_readTerm 55 = .ok (.bipush 47, 2) := sorry
theorem dX6_readTerm_57 : decode cX6_readTerm 57 = .ok (.invokevirtual 83, 3) := sorry
theorem dX6_readTerm_60 : decode cX6_readTerm 60 = .ok (.ifCond .eq 8, 3) := sorry
theorem dX6_readTerm_68 : decode cX6_readTerm 68 = .ok (.bipush 10, 2) := sorry
theorem dX6_readTerm_63 : decode cX6_readTerm 63 = .ok (.bipush 9, 2) := sorry
theorem dX6_readTerm_65 : decode cX6_readTerm 65 = .ok (.goto 5, 3) := sorry
theorem dX6_readTerm_49 : decode cX6_readTerm 49 = .ok (.bipush 8, 2) := sorry
theorem dX6_readTerm_51 : decode cX6_readTerm 51 = .ok (.goto 19, 3) := sorry
theorem dX6_readTerm_22 : decode cX6_readTerm 22 = .ok (.aload_n 0, 1) := sorry
theorem dX6_readTerm_23 : decode cX6_readTerm 23 = .ok (.bipush 47, 2) := sorry
theorem dX6_readTerm_25 : decode cX6_readTerm 25 = .ok (.invokevirtual 83, 3) := sorry
theorem dX6_readTerm_28 : decode cX6_readTerm 28 = .ok (.ifCond .ne 12, 3) := sorry
theorem dX6_readTerm_31 : decode cX6_readTerm 31 = .ok (.aload_n 0, 1) := sorry
theorem dX6_readTerm_32 : decode cX6_readTerm 32 = .ok (.bipush 37, 2) := sorry
theorem dX6_readTerm_34 : decode cX6_readTerm 34 = .ok (.invokevirtual 83, 3) := sorry
theorem dX6_readTerm_37 : decode cX6_readTerm 37 = .ok (.ifCond .eq 57, 3) := sorry
set_option maxHeartbeats 4000000 in
set_option maxRecDepth 100000 in
theorem k_X6_readTerm_8 (l : Launch) (D : va_G) (cy : Nat → ClassId) (ld : Nat → Nat) (t : tk_T) (a0 : Nat) (ht_a0 : t a0 = (7, 0, 0)) : Met l yX6_readTerm (wl yX6_readTerm cX6_readTerm 3 none) ({ frames := 10, cells := 0, slots := 0, locals := 630 }) (tp D cy ld t [] [.ref a0] (fun H => tk_f D H a0 6 9 (.int 8))) (tv D cy ld t [] (fun H => tk_f D H a0 6 9 (.int 8)) (tk_w t [(7, 0, 0), (20, 0, 0), (8, 12, 12)])) 0 0 (tk_w t [(7, 0, 0), (20, 0, 0), (8, 12, 12)]) := by sorry
end
