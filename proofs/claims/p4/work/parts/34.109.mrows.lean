theorem dX13_nextVerse_0 : decode cX13_nextVerse 0 = .ok (.iconst (-1), 1) := by decide +kernel
theorem dX13_nextVerse_1 : decode cX13_nextVerse 1 = .ok (.istore_n 3, 1) := by decide +kernel
theorem dX13_nextVerse_2 : decode cX13_nextVerse 2 = .ok (.ldc_w 574, 3) := by decide +kernel
theorem dX13_nextVerse_5 : decode cX13_nextVerse 5 = .ok (.istore 4, 2) := by decide +kernel
theorem dX13_nextVerse_7 : decode cX13_nextVerse 7 = .ok (.iconst 0, 1) := by decide +kernel
theorem dX13_nextVerse_8 : decode cX13_nextVerse 8 = .ok (.istore 5, 2) := by decide +kernel
theorem dX13_nextVerse_10 : decode cX13_nextVerse 10 = .ok (.iload 5, 2) := by decide +kernel
theorem dX13_nextVerse_12 : decode cX13_nextVerse 12 = .ok (.aload_n 0, 1) := by decide +kernel
theorem dX13_nextVerse_13 : decode cX13_nextVerse 13 = .ok (.getfield 13, 3) := by decide +kernel
theorem dX13_nextVerse_16 : decode cX13_nextVerse 16 = .ok (.iconst 1, 1) := by decide +kernel
theorem dX13_nextVerse_17 : decode cX13_nextVerse 17 = .ok (.iaload, 1) := by decide +kernel
theorem dX13_nextVerse_18 : decode cX13_nextVerse 18 = .ok (.if_icmp .ge 155, 3) := by decide +kernel
theorem dX13_nextVerse_173 : decode cX13_nextVerse 173 = .ok (.iload_n 3, 1) := by decide +kernel
theorem dX13_nextVerse_174 : decode cX13_nextVerse 174 = .ok (.ireturn, 1) := by decide +kernel
theorem dX13_nextVerse_21 : decode cX13_nextVerse 21 = .ok (.iconst 0, 1) := by decide +kernel
theorem dX13_nextVerse_22 : decode cX13_nextVerse 22 = .ok (.istore 6, 2) := by decide +kernel
theorem dX13_nextVerse_24 : decode cX13_nextVerse 24 = .ok (.iconst 0, 1) := by decide +kernel
theorem dX13_nextVerse_25 : decode cX13_nextVerse 25 = .ok (.istore 7, 2) := by decide +kernel
theorem dX13_nextVerse_27 : decode cX13_nextVerse 27 = .ok (.iconst 1, 1) := by decide +kernel
theorem dX13_nextVerse_28 : decode cX13_nextVerse 28 = .ok (.istore 8, 2) := by decide +kernel
theorem dX13_nextVerse_30 : decode cX13_nextVerse 30 = .ok (.iload 8, 2) := by decide +kernel
theorem dX13_nextVerse_32 : decode cX13_nextVerse 32 = .ok (.sipush 1000, 3) := by decide +kernel
theorem dX13_nextVerse_35 : decode cX13_nextVerse 35 = .ok (.if_icmp .ge 76, 3) := by decide +kernel
theorem dX13_nextVerse_111 : decode cX13_nextVerse 111 = .ok (.iload 6, 2) := by decide +kernel
theorem dX13_nextVerse_113 : decode cX13_nextVerse 113 = .ok (.iload 7, 2) := by decide +kernel
theorem dX13_nextVerse_125 : decode cX13_nextVerse 125 = .ok (.istore 8, 2) := by decide +kernel
theorem dX13_nextVerse_127 : decode cX13_nextVerse 127 = .ok (.iload 8, 2) := by decide +kernel
theorem dX13_nextVerse_145 : decode cX13_nextVerse 145 = .ok (.istore_n 3, 1) := by decide +kernel
theorem dX13_nextVerse_146 : decode cX13_nextVerse 146 = .ok (.iload 8, 2) := by decide +kernel
theorem dX13_nextVerse_165 : decode cX13_nextVerse 165 = .ok (.istore 4, 2) := by decide +kernel
theorem dX13_nextVerse_167 : decode cX13_nextVerse 167 = .ok (.iinc 5 1, 3) := by decide +kernel
theorem dX13_nextVerse_170 : decode cX13_nextVerse 170 = .ok (.goto (-160), 3) := by decide +kernel
theorem dX13_nextVerse_148 : decode cX13_nextVerse 148 = .ok (.ifCond .le 15, 3) := by decide +kernel
theorem dX13_nextVerse_163 : decode cX13_nextVerse 163 = .ok (.iload 4, 2) := by decide +kernel
theorem dX13_nextVerse_151 : decode cX13_nextVerse 151 = .ok (.iload 8, 2) := by decide +kernel
theorem dX13_nextVerse_153 : decode cX13_nextVerse 153 = .ok (.iload 4, 2) := by decide +kernel
theorem dX13_nextVerse_155 : decode cX13_nextVerse 155 = .ok (.if_icmp .ge 8, 3) := by decide +kernel
theorem dX13_nextVerse_158 : decode cX13_nextVerse 158 = .ok (.iload 8, 2) := by decide +kernel
theorem dX13_nextVerse_160 : decode cX13_nextVerse 160 = .ok (.goto 5, 3) := by decide +kernel
theorem dX13_nextVerse_129 : decode cX13_nextVerse 129 = .ok (.ifCond .le 15, 3) := by decide +kernel
theorem dX13_nextVerse_144 : decode cX13_nextVerse 144 = .ok (.iload_n 3, 1) := by decide +kernel
theorem dX13_nextVerse_132 : decode cX13_nextVerse 132 = .ok (.iload 8, 2) := by decide +kernel
theorem dX13_nextVerse_134 : decode cX13_nextVerse 134 = .ok (.iload 4, 2) := by decide +kernel
theorem dX13_nextVerse_136 : decode cX13_nextVerse 136 = .ok (.if_icmp .ge 8, 3) := by decide +kernel
theorem dX13_nextVerse_139 : decode cX13_nextVerse 139 = .ok (.iload 5, 2) := by decide +kernel
theorem dX13_nextVerse_141 : decode cX13_nextVerse 141 = .ok (.goto 4, 3) := by decide +kernel
theorem dX13_nextVerse_115 : decode cX13_nextVerse 115 = .ok (.if_icmp .le 8, 3) := by decide +kernel
theorem dX13_nextVerse_123 : decode cX13_nextVerse 123 = .ok (.iload 7, 2) := by decide +kernel
theorem dX13_nextVerse_118 : decode cX13_nextVerse 118 = .ok (.iload 6, 2) := by decide +kernel
theorem dX13_nextVerse_120 : decode cX13_nextVerse 120 = .ok (.goto 5, 3) := by decide +kernel
theorem dX13_nextVerse_38 : decode cX13_nextVerse 38 = .ok (.aload_n 0, 1) := by decide +kernel
theorem dX13_nextVerse_39 : decode cX13_nextVerse 39 = .ok (.getfield 146, 3) := by decide +kernel
theorem dX13_nextVerse_42 : decode cX13_nextVerse 42 = .ok (.iload 8, 2) := by decide +kernel
theorem dX13_nextVerse_44 : decode cX13_nextVerse 44 = .ok (.iaload, 1) := by decide +kernel
theorem dX13_nextVerse_105 : decode cX13_nextVerse 105 = .ok (.iinc 8 1, 3) := by decide +kernel
theorem dX13_nextVerse_108 : decode cX13_nextVerse 108 = .ok (.goto (-78), 3) := by decide +kernel
theorem dX13_nextVerse_45 : decode cX13_nextVerse 45 = .ok (.ifCond .le 60, 3) := by decide +kernel
theorem dX13_nextVerse_48 : decode cX13_nextVerse 48 = .ok (.aload_n 0, 1) := by decide +kernel
theorem dX13_nextVerse_49 : decode cX13_nextVerse 49 = .ok (.iload 5, 2) := by decide +kernel
theorem dX13_nextVerse_51 : decode cX13_nextVerse 51 = .ok (.iload_n 1, 1) := by decide +kernel
theorem dX13_nextVerse_52 : decode cX13_nextVerse 52 = .ok (.iconst 0, 1) := by decide +kernel
theorem dX13_nextVerse_53 : decode cX13_nextVerse 53 = .ok (.iconst 0, 1) := by decide +kernel
theorem dX13_nextVerse_54 : decode cX13_nextVerse 54 = .ok (.aload_n 0, 1) := by decide +kernel
theorem dX13_nextVerse_55 : decode cX13_nextVerse 55 = .ok (.getfield 146, 3) := by decide +kernel
theorem dX13_nextVerse_58 : decode cX13_nextVerse 58 = .ok (.iload 8, 2) := by decide +kernel
theorem dX13_nextVerse_60 : decode cX13_nextVerse 60 = .ok (.iaload, 1) := by decide +kernel
theorem dX13_nextVerse_61 : decode cX13_nextVerse 61 = .ok (.iload_n 2, 1) := by decide +kernel
theorem dX13_nextVerse_62 : decode cX13_nextVerse 62 = .ok (.invokevirtual 570, 3) := by decide +kernel
theorem dX13_nextVerse_73 : decode cX13_nextVerse 73 = .ok (.istore 9, 2) := by decide +kernel
theorem dX13_nextVerse_75 : decode cX13_nextVerse 75 = .ok (.iload 6, 2) := by decide +kernel
theorem dX13_nextVerse_77 : decode cX13_nextVerse 77 = .ok (.iload 9, 2) := by decide +kernel
theorem dX13_nextVerse_87 : decode cX13_nextVerse 87 = .ok (.iadd, 1) := by decide +kernel
theorem dX13_nextVerse_88 : decode cX13_nextVerse 88 = .ok (.istore 6, 2) := by decide +kernel
theorem dX13_nextVerse_90 : decode cX13_nextVerse 90 = .ok (.iload 7, 2) := by decide +kernel
theorem dX13_nextVerse_92 : decode cX13_nextVerse 92 = .ok (.iload 9, 2) := by decide +kernel
theorem dX13_nextVerse_102 : decode cX13_nextVerse 102 = .ok (.iadd, 1) := by decide +kernel
theorem dX13_nextVerse_103 : decode cX13_nextVerse 103 = .ok (.istore 7, 2) := by decide +kernel
theorem dX13_nextVerse_94 : decode cX13_nextVerse 94 = .ok (.ifCond .eq 7, 3) := by decide +kernel
theorem dX13_nextVerse_101 : decode cX13_nextVerse 101 = .ok (.iconst 1, 1) := by decide +kernel
theorem dX13_nextVerse_97 : decode cX13_nextVerse 97 = .ok (.iconst 0, 1) := by decide +kernel
theorem dX13_nextVerse_98 : decode cX13_nextVerse 98 = .ok (.goto 4, 3) := by decide +kernel
theorem dX13_nextVerse_79 : decode cX13_nextVerse 79 = .ok (.ifCond .eq 7, 3) := by decide +kernel
theorem dX13_nextVerse_86 : decode cX13_nextVerse 86 = .ok (.iconst 0, 1) := by decide +kernel
theorem dX13_nextVerse_82 : decode cX13_nextVerse 82 = .ok (.iconst 1, 1) := by decide +kernel
theorem dX13_nextVerse_83 : decode cX13_nextVerse 83 = .ok (.goto 4, 3) := by decide +kernel
theorem dX13_nextVerse_65 : decode cX13_nextVerse 65 = .ok (.ifCond .ne 7, 3) := by decide +kernel
theorem dX13_nextVerse_72 : decode cX13_nextVerse 72 = .ok (.iconst 0, 1) := by decide +kernel
theorem dX13_nextVerse_68 : decode cX13_nextVerse 68 = .ok (.iconst 1, 1) := by decide +kernel
theorem dX13_nextVerse_69 : decode cX13_nextVerse 69 = .ok (.goto 4, 3) := by decide +kernel
set_option maxHeartbeats 4000000 in
set_option maxRecDepth 100000 in
theorem k_X13_nextVerse (l : Launch) (D : va_G) (cy : Nat → ClassId) (ld ad : Nat → Nat) (am : Nat) (hD : mz_D ad am) (Fa : Nat → Int32) (Ga : Nat → Int64) (Ra : Nat → Nat → Int32) (Sa : Nat → Nat → Int64) (p1 : Int32) (p2 : Int32) (hIF : mz_IF true Fa) (hIG : mz_IG Ga) (hIR : mz_IR [] true Ra) (hp_0 : 0 ≤ p1.toInt) (hp_1 : p1.toInt ≤ 7) : Met l yX13_nextVerse (wl yX13_nextVerse cX13_nextVerse 10 (some .int)) ({ frames := 10, cells := 0, slots := 0, locals := 630 }) (mz_p D cy ld ad am Fa Ga Ra Sa [.ref am, .int p1, .int p2]) (mz_i D cy ad am (fun r F G R S => mz_IF true F ∧ mz_IG G ∧ mz_IR [] true R ∧ (∀ k : Nat, k ∉ ([34, 38] : List Nat) → F k = Fa k) ∧ (∀ k : Nat, k ∉ ([] : List Nat) → R k = Ra k) ∧ (∀ k : Nat, k ∉ ([39, 40] : List Nat) → G k = Ga k) ∧ (-1) ≤ r.toInt ∧ r.toInt ≤ 9)) 0 0 (mz_W ad am) := by
  refine mz_met (y := yX13_nextVerse) (cc := cX13_nextVerse) (maxL := 10) (ret := (some .int)) (av := [.ref am, .int p1, .int p2]) _ (by decide) (Nat.le_of_ble_eq_true rfl) ?_
  intro p e s m args below meth c hx hb hr hml hts htl hown hlocks hK H locs hM hS ls hl
  have hown : s.vm.findClass RX13 = some m.cls := hown
  have hl : lv_has ls 10 [(0, .ref am), (1, .int p1), (2, .int p2)] := hl
  have hr_p1 := tk_rng p1
  have hr_p2 := tk_rng p2
  refine lv_iconst (v := (-1)) hx hb dX13_nextVerse_0 (by decide) ?_
  refine lv_istore_n (lv' := [(3, .int (-1)), (0, .ref am), (1, .int p1), (2, .int p2)]) hx hb dX13_nextVerse_1 rfl hl (by decide) rfl (fun ls hl => ?_)
  refine lv_ldcw hx hb hown (htl _ mw_1570) dX13_nextVerse_2 ?_
  refine lv_istore (lv' := [(4, .int 100000000), (3, .int (-1)), (0, .ref am), (1, .int p1), (2, .int p2)]) hx hb dX13_nextVerse_5 hl (by decide) rfl (fun ls hl => ?_)
  refine lv_iconst (v := 0) hx hb dX13_nextVerse_7 (by decide) ?_
  refine lv_istore (lv' := [(5, .int 0), (4, .int 100000000), (3, .int (-1)), (0, .ref am), (1, .int p1), (2, .int p2)]) hx hb dX13_nextVerse_8 hl (by decide) rfl (fun ls hl => ?_)
  have hl10011 : ∀ (N_l10011 : Nat) (v1639 : Int32) (v1640 : Int32) (v1641 : Int32) (H : Heap) (locs : List Loc) (F : Nat → Int32) (G : Nat → Int64) (R : Nat → Nat → Int32) (S : Nat → Nat → Int64), (v1639.toInt ≤ 10) → ((-1) ≤ v1641.toInt) → (0 ≤ v1639.toInt + (-1) * v1641.toInt + (-1)) → (v1640.toInt ≤ 1000000000) → ((-1000000000) ≤ v1640.toInt) → (mz_S D cy ad am F G R S H) → (va_S (mz_W ad am) s.heap H locs) → (mz_IF true F) → (mz_IG G) → (mz_IR [] true R) → (∀ k : Nat, k ∉ ([34, 38] : List Nat) → F k = Fa k) → (∀ k : Nat, k ∉ ([39, 40] : List Nat) → G k = Ga k) → (∀ k : Nat, k ∉ ([] : List Nat) → R k = Ra k) → ((-1) * v1639.toInt + 10 < (N_l10011 : Int)) → ∀ ls : Array Slot, lv_has ls 10 [(5, .int v1639), (4, .int v1640), (3, .int v1641), (0, .ref am), (1, .int p1), (2, .int p2)] → W p l e ({ frames := 10, cells := 0, slots := 0, locals := 630 }) s m args below meth c H locs 0 0 (MQ below (mz_i D cy ad am (fun r F G R S => mz_IF true F ∧ mz_IG G ∧ mz_IR [] true R ∧ (∀ k : Nat, k ∉ ([34, 38] : List Nat) → F k = Fa k) ∧ (∀ k : Nat, k ∉ ([] : List Nat) → R k = Ra k) ∧ (∀ k : Nat, k ∉ ([39, 40] : List Nat) → G k = Ga k) ∧ (-1) ≤ r.toInt ∧ r.toInt ≤ 9)) args s 0 0 (mz_W ad am)) (F0 m 10 ls []) := by
    intro N_l10011
    induction N_l10011 with
    | zero => intro v1639 v1640 v1641 H locs F G R S hq0_l10011 hq1_l10011 hq2_l10011 hq3_l10011 hq4_l10011 hM hS hIF hIG hIR hFF hGG hRR hm_l10011 ls hl; exfalso; omega
    | succ N_l10011 ih_l10011 =>
      intro v1639 v1640 v1641 H locs F G R S hq0_l10011 hq1_l10011 hq2_l10011 hq3_l10011 hq4_l10011 hM hS hIF hIG hIR hFF hGG hRR hm_l10011 ls hl
      refine lv_iload hx hb dX13_nextVerse_10 (lv_at hl 0 rfl) ?_
      refine lv_aload_n hx hb dX13_nextVerse_12 rfl (lv_at hl 3 rfl) ?_
      refine mz_getR hx hb htl hown hK hM 3 (Nat.le_of_ble_eq_true rfl) (Nat.le_of_ble_eq_true rfl) (htl _ mw_188) (fun _ h9 => h9) dX13_nextVerse_13 ?_
      refine lv_iconst (v := 1) hx hb dX13_nextVerse_16 (by decide) ?_
      refine mz_iald hx hb hK hM 3 (Nat.le_of_ble_eq_true rfl) rfl (nn := 5560) rfl (I := 1) (by decide) (by decide) (by decide) dX13_nextVerse_17 (fun v10013 hf10012 => ?_)
      have hf10012 : R 3 1 = v10013 := hf10012
      have hq_v10013 := tk_rng v10013
      have hr_v10013 : 0 ≤ v10013.toInt ∧ v10013.toInt ≤ 10 := by have h9 := mz_r3c 1 (hIR.at 3) hf10012 (by decide); unfold mE at h9; omega
      refine lv_icmp_ge (tgt := 173) hx hb dX13_nextVerse_18 (by decide) (fun c9 => ?_) (fun c9 => ?_)
      · have hc10014 : v10013.toInt ≤ v1639.toInt := (fi_le rfl rfl).mp c9
        refine lv_iload_n hx hb dX13_nextVerse_173 rfl (lv_at hl 2 rfl) ?_
        exact mz_iret (v := v1641) hx hb hr rfl hlocks ⟨hIF, hIG, hIR, hFF, hRR, hGG, (by omega), (by omega)⟩ hM hS dX13_nextVerse_174
      · have hc10014 : ¬ (v10013.toInt ≤ v1639.toInt) := fun h9 => c9 ((fi_le rfl rfl).mpr h9)
        refine lv_iconst (v := 0) hx hb dX13_nextVerse_21 (by decide) ?_
        refine lv_istore (lv' := [(6, .int 0), (5, .int v1639), (4, .int v1640), (3, .int v1641), (0, .ref am), (1, .int p1), (2, .int p2)]) hx hb dX13_nextVerse_22 hl (by decide) rfl (fun ls hl => ?_)
        refine lv_iconst (v := 0) hx hb dX13_nextVerse_24 (by decide) ?_
        refine lv_istore (lv' := [(7, .int 0), (6, .int 0), (5, .int v1639), (4, .int v1640), (3, .int v1641), (0, .ref am), (1, .int p1), (2, .int p2)]) hx hb dX13_nextVerse_25 hl (by decide) rfl (fun ls hl => ?_)
        refine lv_iconst (v := 1) hx hb dX13_nextVerse_27 (by decide) ?_
        refine lv_istore (lv' := [(8, .int 1), (7, .int 0), (6, .int 0), (5, .int v1639), (4, .int v1640), (3, .int v1641), (0, .ref am), (1, .int p1), (2, .int p2)]) hx hb dX13_nextVerse_28 hl (by decide) rfl (fun ls hl => ?_)
        have hl12042 : ∀ (N_l12042 : Nat) (v11084 : Int32) (v11085 : Int32) (v11086 : Int32) (H : Heap) (locs : List Loc) (F : Nat → Int32) (G : Nat → Int64) (R : Nat → Nat → Int32) (S : Nat → Nat → Int64), (v11084.toInt ≤ 1000) → (0 ≤ v11085.toInt) → (0 ≤ v11086.toInt) → (0 ≤ v11084.toInt + (-1) * v11085.toInt + (-1)) → (0 ≤ v11084.toInt + (-1) * v11086.toInt + (-1)) → (mz_S D cy ad am F G R S H) → (va_S (mz_W ad am) s.heap H locs) → (mz_IF true F) → (mz_IG G) → (mz_IR [] true R) → (∀ k : Nat, k ∉ ([34, 38] : List Nat) → F k = Fa k) → (∀ k : Nat, k ∉ ([39, 40] : List Nat) → G k = Ga k) → (∀ k : Nat, k ∉ ([] : List Nat) → R k = Ra k) → (R 3 1 = v10013) → ((-1) * v11084.toInt + 1000 < (N_l12042 : Int)) → ∀ ls : Array Slot, lv_has ls 10 [(8, .int v11084), (7, .int v11085), (6, .int v11086), (5, .int v1639), (4, .int v1640), (3, .int v1641), (0, .ref am), (1, .int p1), (2, .int p2)] → W p l e ({ frames := 10, cells := 0, slots := 0, locals := 630 }) s m args below meth c H locs 0 0 (MQ below (mz_i D cy ad am (fun r F G R S => mz_IF true F ∧ mz_IG G ∧ mz_IR [] true R ∧ (∀ k : Nat, k ∉ ([34, 38] : List Nat) → F k = Fa k) ∧ (∀ k : Nat, k ∉ ([] : List Nat) → R k = Ra k) ∧ (∀ k : Nat, k ∉ ([39, 40] : List Nat) → G k = Ga k) ∧ (-1) ≤ r.toInt ∧ r.toInt ≤ 9)) args s 0 0 (mz_W ad am)) (F0 m 30 ls []) := by
          intro N_l12042
          induction N_l12042 with
          | zero => intro v11084 v11085 v11086 H locs F G R S hq0_l12042 hq1_l12042 hq2_l12042 hq3_l12042 hq4_l12042 hM hS hIF hIG hIR hFF hGG hRR hf10012 hm_l12042 ls hl; exfalso; omega
          | succ N_l12042 ih_l12042 =>
            intro v11084 v11085 v11086 H locs F G R S hq0_l12042 hq1_l12042 hq2_l12042 hq3_l12042 hq4_l12042 hM hS hIF hIG hIR hFF hGG hRR hf10012 hm_l12042 ls hl
            refine lv_iload hx hb dX13_nextVerse_30 (lv_at hl 0 rfl) ?_
            refine lv_sipush (v := 1000) hx hb dX13_nextVerse_32 (by decide) ?_
            refine lv_icmp_ge (tgt := 111) hx hb dX13_nextVerse_35 (by decide) (fun c9 => ?_) (fun c9 => ?_)
            · have hc12043 : 1000 ≤ v11084.toInt := (fi_le (show (1000 : Int32).toInt = 1000 by decide) rfl).mp c9
              refine lv_iload hx hb dX13_nextVerse_111 (lv_at hl 2 rfl) ?_
              refine lv_iload hx hb dX13_nextVerse_113 (lv_at hl 1 rfl) ?_
              have hj12093 : ∀ (v12092 : Int32), (0 ≤ v11084.toInt + (-1) * v12092.toInt + (-1)) → (0 ≤ (-1) * v11085.toInt + v12092.toInt) → (0 ≤ (-1) * v11086.toInt + v12092.toInt) → ∀ ls : Array Slot, lv_has ls 10 [(5, .int v1639), (4, .int v1640), (3, .int v1641), (0, .ref am), (1, .int p1), (2, .int p2)] → W p l e ({ frames := 10, cells := 0, slots := 0, locals := 630 }) s m args below meth c H locs 0 0 (MQ below (mz_i D cy ad am (fun r F G R S => mz_IF true F ∧ mz_IG G ∧ mz_IR [] true R ∧ (∀ k : Nat, k ∉ ([34, 38] : List Nat) → F k = Fa k) ∧ (∀ k : Nat, k ∉ ([] : List Nat) → R k = Ra k) ∧ (∀ k : Nat, k ∉ ([39, 40] : List Nat) → G k = Ga k) ∧ (-1) ≤ r.toInt ∧ r.toInt ≤ 9)) args s 0 0 (mz_W ad am)) (F0 m 125 ls [.int v12092]) := by
                intro v12092 hq0_j12093 hq1_j12093 hq2_j12093 ls hl
                refine lv_istore (lv' := [(8, .int v12092), (5, .int v1639), (4, .int v1640), (3, .int v1641), (0, .ref am), (1, .int p1), (2, .int p2)]) hx hb dX13_nextVerse_125 hl (by decide) rfl (fun ls hl => ?_)
                refine lv_iload hx hb dX13_nextVerse_127 (lv_at hl 0 rfl) ?_
                have hj12098 : ∀ (v12097 : Int32), (0 ≤ (-1) * v12097.toInt + v1639.toInt) → (0 ≤ v12097.toInt + (-1) * v1641.toInt) → ∀ ls : Array Slot, lv_has ls 10 [(8, .int v12092), (5, .int v1639), (4, .int v1640), (0, .ref am), (1, .int p1), (2, .int p2)] → W p l e ({ frames := 10, cells := 0, slots := 0, locals := 630 }) s m args below meth c H locs 0 0 (MQ below (mz_i D cy ad am (fun r F G R S => mz_IF true F ∧ mz_IG G ∧ mz_IR [] true R ∧ (∀ k : Nat, k ∉ ([34, 38] : List Nat) → F k = Fa k) ∧ (∀ k : Nat, k ∉ ([] : List Nat) → R k = Ra k) ∧ (∀ k : Nat, k ∉ ([39, 40] : List Nat) → G k = Ga k) ∧ (-1) ≤ r.toInt ∧ r.toInt ≤ 9)) args s 0 0 (mz_W ad am)) (F0 m 145 ls [.int v12097]) := by
                  intro v12097 hq0_j12098 hq1_j12098 ls hl
                  refine lv_istore_n (lv' := [(3, .int v12097), (8, .int v12092), (5, .int v1639), (4, .int v1640), (0, .ref am), (1, .int p1), (2, .int p2)]) hx hb dX13_nextVerse_145 rfl hl (by decide) rfl (fun ls hl => ?_)
                  refine lv_iload hx hb dX13_nextVerse_146 (lv_at hl 1 rfl) ?_
                  have hj12103 : ∀ (v12102 : Int32), ((-1000000000) ≤ v12102.toInt) → (0 ≤ (-1) * v12102.toInt + v1640.toInt) → ∀ ls : Array Slot, lv_has ls 10 [(3, .int v12097), (5, .int v1639), (0, .ref am), (1, .int p1), (2, .int p2)] → W p l e ({ frames := 10, cells := 0, slots := 0, locals := 630 }) s m args below meth c H locs 0 0 (MQ below (mz_i D cy ad am (fun r F G R S => mz_IF true F ∧ mz_IG G ∧ mz_IR [] true R ∧ (∀ k : Nat, k ∉ ([34, 38] : List Nat) → F k = Fa k) ∧ (∀ k : Nat, k ∉ ([] : List Nat) → R k = Ra k) ∧ (∀ k : Nat, k ∉ ([39, 40] : List Nat) → G k = Ga k) ∧ (-1) ≤ r.toInt ∧ r.toInt ≤ 9)) args s 0 0 (mz_W ad am)) (F0 m 165 ls [.int v12102]) := by
                    intro v12102 hq0_j12103 hq1_j12103 ls hl
                    refine lv_istore (lv' := [(4, .int v12102), (3, .int v12097), (5, .int v1639), (0, .ref am), (1, .int p1), (2, .int p2)]) hx hb dX13_nextVerse_165 hl (by decide) rfl (fun ls hl => ?_)
                    obtain ⟨v12104, h_v12104, e_v12104⟩ := tk_inc v1639 1 (by decide) (by omega) (by omega)
                    refine lv_iinc (v := v12104) (lv' := [(5, .int v12104), (4, .int v12102), (3, .int v12097), (0, .ref am), (1, .int p1), (2, .int p2)]) hx hb dX13_nextVerse_167 hl (k := 2) rfl e_v12104 (by decide) rfl (fun ls hl => ?_)
                    refine lv_goto (tgt := 10) hx hb dX13_nextVerse_170 (by decide) ?_
                    exact ih_l10011 v12104 v12102 v12097 _ _ _ _ _ _ (by omega) (by omega) (by omega) (by omega) (by omega) hM hS hIF hIG hIR hFF hGG hRR (by omega) _ (lv_sub hl [0, 1, 2, 3, 4, 5] rfl)
                  refine lv_if_le (tgt := 163) hx hb dX13_nextVerse_148 (by decide) (fun c9 => ?_) (fun c9 => ?_)
                  · have hc12099 : v12092.toInt ≤ 0 := (fi_le rfl (show (0 : Int32).toInt = 0 by decide)).mp c9
                    refine lv_iload hx hb dX13_nextVerse_163 (lv_at hl 3 rfl) ?_
                    exact hj12103 v1640 (by omega) (by omega) _ (lv_sub hl [0, 2, 4, 5, 6] rfl)
                  · have hc12099 : ¬ (v12092.toInt ≤ 0) := fun h9 => c9 ((fi_le rfl (show (0 : Int32).toInt = 0 by decide)).mpr h9)
                    refine lv_iload hx hb dX13_nextVerse_151 (lv_at hl 1 rfl) ?_
                    refine lv_iload hx hb dX13_nextVerse_153 (lv_at hl 3 rfl) ?_
                    refine lv_icmp_ge (tgt := 163) hx hb dX13_nextVerse_155 (by decide) (fun c9 => ?_) (fun c9 => ?_)
                    · have hc12105 : v1640.toInt ≤ v12092.toInt := (fi_le rfl rfl).mp c9
                      refine lv_iload hx hb dX13_nextVerse_163 (lv_at hl 3 rfl) ?_
                      exact hj12103 v1640 (by omega) (by omega) _ (lv_sub hl [0, 2, 4, 5, 6] rfl)
                    · have hc12105 : ¬ (v1640.toInt ≤ v12092.toInt) := fun h9 => c9 ((fi_le rfl rfl).mpr h9)
                      refine lv_iload hx hb dX13_nextVerse_158 (lv_at hl 1 rfl) ?_
                      refine lv_goto (tgt := 165) hx hb dX13_nextVerse_160 (by decide) ?_
                      exact hj12103 v12092 (by omega) (by omega) _ (lv_sub hl [0, 2, 4, 5, 6] rfl)
                refine lv_if_le (tgt := 144) hx hb dX13_nextVerse_129 (by decide) (fun c9 => ?_) (fun c9 => ?_)
                · have hc12094 : v12092.toInt ≤ 0 := (fi_le rfl (show (0 : Int32).toInt = 0 by decide)).mp c9
                  refine lv_iload_n hx hb dX13_nextVerse_144 rfl (lv_at hl 3 rfl) ?_
                  exact hj12098 v1641 (by omega) (by omega) _ (lv_sub hl [0, 1, 2, 4, 5, 6] rfl)
                · have hc12094 : ¬ (v12092.toInt ≤ 0) := fun h9 => c9 ((fi_le rfl (show (0 : Int32).toInt = 0 by decide)).mpr h9)
                  refine lv_iload hx hb dX13_nextVerse_132 (lv_at hl 0 rfl) ?_
                  refine lv_iload hx hb dX13_nextVerse_134 (lv_at hl 2 rfl) ?_
                  refine lv_icmp_ge (tgt := 144) hx hb dX13_nextVerse_136 (by decide) (fun c9 => ?_) (fun c9 => ?_)
                  · have hc12106 : v1640.toInt ≤ v12092.toInt := (fi_le rfl rfl).mp c9
                    refine lv_iload_n hx hb dX13_nextVerse_144 rfl (lv_at hl 3 rfl) ?_
                    exact hj12098 v1641 (by omega) (by omega) _ (lv_sub hl [0, 1, 2, 4, 5, 6] rfl)
                  · have hc12106 : ¬ (v1640.toInt ≤ v12092.toInt) := fun h9 => c9 ((fi_le rfl rfl).mpr h9)
                    refine lv_iload hx hb dX13_nextVerse_139 (lv_at hl 1 rfl) ?_
                    refine lv_goto (tgt := 145) hx hb dX13_nextVerse_141 (by decide) ?_
                    exact hj12098 v1639 (by omega) (by omega) _ (lv_sub hl [0, 1, 2, 4, 5, 6] rfl)
              refine lv_icmp_le (tgt := 123) hx hb dX13_nextVerse_115 (by decide) (fun c9 => ?_) (fun c9 => ?_)
              · have hc12090 : v11086.toInt ≤ v11085.toInt := (fi_le rfl rfl).mp c9
                refine lv_iload hx hb dX13_nextVerse_123 (lv_at hl 1 rfl) ?_
                exact hj12093 v11085 (by omega) (by omega) (by omega) _ (lv_sub hl [3, 4, 5, 6, 7, 8] rfl)
              · have hc12090 : ¬ (v11086.toInt ≤ v11085.toInt) := fun h9 => c9 ((fi_le rfl rfl).mpr h9)
                refine lv_iload hx hb dX13_nextVerse_118 (lv_at hl 2 rfl) ?_
                refine lv_goto (tgt := 125) hx hb dX13_nextVerse_120 (by decide) ?_
                exact hj12093 v11086 (by omega) (by omega) (by omega) _ (lv_sub hl [3, 4, 5, 6, 7, 8] rfl)
            · have hc12043 : ¬ (1000 ≤ v11084.toInt) := fun h9 => c9 ((fi_le (show (1000 : Int32).toInt = 1000 by decide) rfl).mpr h9)
              refine lv_aload_n hx hb dX13_nextVerse_38 rfl (lv_at hl 6 rfl) ?_
              refine mz_getR hx hb htl hown hK hM 59 (Nat.le_of_ble_eq_true rfl) (Nat.le_of_ble_eq_true rfl) (htl _ mw_238) (fun _ h9 => h9) dX13_nextVerse_39 ?_
              refine lv_iload hx hb dX13_nextVerse_42 (lv_at hl 0 rfl) ?_
              refine mz_iald hx hb hK hM 59 (Nat.le_of_ble_eq_true rfl) rfl (nn := 1000) rfl rfl (by omega) (by omega) dX13_nextVerse_44 (fun v12107 e_v12107 => ?_)
              have hq_v12107 := tk_rng v12107
              have hj12133 : ∀ (v12130 : Int32) (v12131 : Int32) (H : Heap) (locs : List Loc) (F : Nat → Int32) (G : Nat → Int64) (R : Nat → Nat → Int32) (S : Nat → Nat → Int64), (0 ≤ v11085.toInt + (-1) * v12130.toInt + 1) → (0 ≤ (-1) * v11085.toInt + v12130.toInt) → (0 ≤ v11086.toInt + (-1) * v12131.toInt + 1) → (0 ≤ (-1) * v11086.toInt + v12131.toInt) → (mz_S D cy ad am F G R S H) → (va_S (mz_W ad am) s.heap H locs) → (mz_IF true F) → (mz_IG G) → (mz_IR [] true R) → (∀ k : Nat, k ∉ ([34, 38] : List Nat) → F k = Fa k) → (∀ k : Nat, k ∉ ([39, 40] : List Nat) → G k = Ga k) → (∀ k : Nat, k ∉ ([] : List Nat) → R k = Ra k) → (R 3 1 = v10013) → ∀ ls : Array Slot, lv_has ls 10 [(8, .int v11084), (7, .int v12130), (6, .int v12131), (5, .int v1639), (4, .int v1640), (3, .int v1641), (0, .ref am), (1, .int p1), (2, .int p2)] → W p l e ({ frames := 10, cells := 0, slots := 0, locals := 630 }) s m args below meth c H locs 0 0 (MQ below (mz_i D cy ad am (fun r F G R S => mz_IF true F ∧ mz_IG G ∧ mz_IR [] true R ∧ (∀ k : Nat, k ∉ ([34, 38] : List Nat) → F k = Fa k) ∧ (∀ k : Nat, k ∉ ([] : List Nat) → R k = Ra k) ∧ (∀ k : Nat, k ∉ ([39, 40] : List Nat) → G k = Ga k) ∧ (-1) ≤ r.toInt ∧ r.toInt ≤ 9)) args s 0 0 (mz_W ad am)) (F0 m 105 ls []) := by
                intro v12130 v12131 H locs F G R S hq0_j12133 hq1_j12133 hq2_j12133 hq3_j12133 hM hS hIF hIG hIR hFF hGG hRR hf10012 ls hl
                obtain ⟨v12134, h_v12134, e_v12134⟩ := tk_inc v11084 1 (by decide) (by omega) (by omega)
                refine lv_iinc (v := v12134) (lv' := [(8, .int v12134), (7, .int v12130), (6, .int v12131), (5, .int v1639), (4, .int v1640), (3, .int v1641), (0, .ref am), (1, .int p1), (2, .int p2)]) hx hb dX13_nextVerse_105 hl (k := 0) rfl e_v12134 (by decide) rfl (fun ls hl => ?_)
                refine lv_goto (tgt := 30) hx hb dX13_nextVerse_108 (by decide) ?_
                exact ih_l12042 v12134 v12130 v12131 _ _ _ _ _ _ (by omega) (by omega) (by omega) (by omega) (by omega) hM hS hIF hIG hIR hFF hGG hRR hf10012 (by omega) _ (lv_sub hl [0, 1, 2, 3, 4, 5, 6, 7, 8] rfl)
              refine lv_if_le (tgt := 105) hx hb dX13_nextVerse_45 (by decide) (fun c9 => ?_) (fun c9 => ?_)
              · have hc12108 : v12107.toInt ≤ 0 := (fi_le rfl (show (0 : Int32).toInt = 0 by decide)).mp c9
                exact hj12133 v11085 v11086 _ _ _ _ _ _ (by omega) (by omega) (by omega) (by omega) hM hS hIF hIG hIR hFF hGG hRR hf10012 _ (lv_sub hl [0, 1, 2, 3, 4, 5, 6, 7, 8] rfl)
              · have hc12108 : ¬ (v12107.toInt ≤ 0) := fun h9 => c9 ((fi_le rfl (show (0 : Int32).toInt = 0 by decide)).mpr h9)
                refine lv_aload_n hx hb dX13_nextVerse_48 rfl (lv_at hl 6 rfl) ?_
                refine lv_iload hx hb dX13_nextVerse_49 (lv_at hl 3 rfl) ?_
                refine lv_iload_n hx hb dX13_nextVerse_51 rfl (lv_at hl 7 rfl) ?_
                refine lv_iconst (v := 0) hx hb dX13_nextVerse_52 (by decide) ?_
                refine lv_iconst (v := 0) hx hb dX13_nextVerse_53 (by decide) ?_
                refine lv_aload_n hx hb dX13_nextVerse_54 rfl (lv_at hl 6 rfl) ?_
                refine mz_getR hx hb htl hown hK hM 59 (Nat.le_of_ble_eq_true rfl) (Nat.le_of_ble_eq_true rfl) (htl _ mw_238) (fun _ h9 => h9) dX13_nextVerse_55 ?_
                refine lv_iload hx hb dX13_nextVerse_58 (lv_at hl 0 rfl) ?_
                refine mz_iald hx hb hK hM 59 (Nat.le_of_ble_eq_true rfl) rfl (nn := 1000) rfl rfl (by omega) (by omega) dX13_nextVerse_60 (fun v9 e9 => ?_)
                refine fx_ti (v := v12107) (e9.symm.trans e_v12107) ?_
                refine lv_iload_n hx hb dX13_nextVerse_61 rfl (lv_at hl 8 rfl) ?_
                have hk_0 : (0 : Int32).toInt = 0 := by decide
                have hk_0 : (0 : Int32).toInt = 0 := by decide
                refine mz_Vi (As := [.int v1639, .int p1, .int 0, .int 0, .int v12107, .int p2]) (rest := []) ⟨hx, hb, hml, hown, hts⟩ hK hM hS (k_X13_leftBy l D cy ld ad am hD _ _ _ _ v1639 p1 0 0 v12107 p2 hIF hIG hIR (by omega) (by omega) (by omega) (by omega)) ⟨callB_of 6 hts (wl_in mw_1565) rfl rfl rfl (htl _ mw_5) (htl _ mw_1562) hd_yX13_leftBy ⟨(Nat.le_of_ble_eq_true rfl), (Nat.le_of_ble_eq_true rfl)⟩, htl _ mw_1563, htl _ mw_1564⟩ rfl hl.1 rfl (Nat.le_of_ble_eq_true rfl) dX13_nextVerse_62 ⟨(Nat.le_of_ble_eq_true rfl), (Nat.le_of_ble_eq_true rfl)⟩ (fun v12135 H locs F G R S hpo hM hS => ?_)
                obtain ⟨hIF, hIG, hIR, hfr9, hrr9, hgr9, hpo12136, hpo12137⟩ := hpo
                have hq_v12135 := tk_rng v12135
                have hFF := mz_fr (K := [34, 38]) (Fa := Fa) hfr9 hFF (by decide)
                have hRR := mz_fr (K := []) (Fa := Ra) hrr9 hRR (by decide)
                have hGG := mz_fr (K := [39, 40]) (Fa := Ga) hgr9 hGG (by decide)
                have e_v12107 : R 59 (v11084 : Int32).toNatClampNeg = _ := (congrFun (hrr9 59 (by decide)) _).trans e_v12107
                have hf10012 : R 3 1 = _ := (congrFun (hrr9 3 (by decide)) 1).trans hf10012
                have hj12142 : ∀ (v12141 : Int32), (0 ≤ v12141.toInt) → (v12141.toInt ≤ 1) → ∀ ls : Array Slot, lv_has ls 10 [(8, .int v11084), (7, .int v11085), (6, .int v11086), (5, .int v1639), (4, .int v1640), (3, .int v1641), (0, .ref am), (1, .int p1), (2, .int p2)] → W p l e ({ frames := 10, cells := 0, slots := 0, locals := 630 }) s m args below meth c H locs 0 0 (MQ below (mz_i D cy ad am (fun r F G R S => mz_IF true F ∧ mz_IG G ∧ mz_IR [] true R ∧ (∀ k : Nat, k ∉ ([34, 38] : List Nat) → F k = Fa k) ∧ (∀ k : Nat, k ∉ ([] : List Nat) → R k = Ra k) ∧ (∀ k : Nat, k ∉ ([39, 40] : List Nat) → G k = Ga k) ∧ (-1) ≤ r.toInt ∧ r.toInt ≤ 9)) args s 0 0 (mz_W ad am)) (F0 m 73 ls [.int v12141]) := by
                  intro v12141 hq0_j12142 hq1_j12142 ls hl
                  refine lv_istore (lv' := [(9, .int v12141), (8, .int v11084), (7, .int v11085), (6, .int v11086), (5, .int v1639), (4, .int v1640), (3, .int v1641), (0, .ref am), (1, .int p1), (2, .int p2)]) hx hb dX13_nextVerse_73 hl (by decide) rfl (fun ls hl => ?_)
                  refine lv_iload hx hb dX13_nextVerse_75 (lv_at hl 3 rfl) ?_
                  refine lv_iload hx hb dX13_nextVerse_77 (lv_at hl 0 rfl) ?_
                  have hj12146 : ∀ (v12145 : Int32), (0 ≤ v12141.toInt + (-1) * v12145.toInt) → (0 ≤ (-1) * v12141.toInt + v12145.toInt) → ∀ ls : Array Slot, lv_has ls 10 [(9, .int v12141), (8, .int v11084), (7, .int v11085), (5, .int v1639), (4, .int v1640), (3, .int v1641), (0, .ref am), (1, .int p1), (2, .int p2)] → W p l e ({ frames := 10, cells := 0, slots := 0, locals := 630 }) s m args below meth c H locs 0 0 (MQ below (mz_i D cy ad am (fun r F G R S => mz_IF true F ∧ mz_IG G ∧ mz_IR [] true R ∧ (∀ k : Nat, k ∉ ([34, 38] : List Nat) → F k = Fa k) ∧ (∀ k : Nat, k ∉ ([] : List Nat) → R k = Ra k) ∧ (∀ k : Nat, k ∉ ([39, 40] : List Nat) → G k = Ga k) ∧ (-1) ≤ r.toInt ∧ r.toInt ≤ 9)) args s 0 0 (mz_W ad am)) (F0 m 87 ls [.int v12145, .int v11086]) := by
                    intro v12145 hq0_j12146 hq1_j12146 ls hl
                    refine lv_iadd hx hb dX13_nextVerse_87 ?_
                    refine tk_add rfl rfl (by omega) (by omega) (fun v12147 h_v12147 => ?_)
                    refine lv_istore (lv' := [(6, .int v12147), (9, .int v12141), (8, .int v11084), (7, .int v11085), (5, .int v1639), (4, .int v1640), (3, .int v1641), (0, .ref am), (1, .int p1), (2, .int p2)]) hx hb dX13_nextVerse_88 hl (by decide) rfl (fun ls hl => ?_)
                    refine lv_iload hx hb dX13_nextVerse_90 (lv_at hl 3 rfl) ?_
                    refine lv_iload hx hb dX13_nextVerse_92 (lv_at hl 1 rfl) ?_
                    have hj12151 : ∀ (v12150 : Int32), (0 ≤ v12150.toInt) → (v12150.toInt ≤ 1) → ∀ ls : Array Slot, lv_has ls 10 [(6, .int v12147), (8, .int v11084), (5, .int v1639), (4, .int v1640), (3, .int v1641), (0, .ref am), (1, .int p1), (2, .int p2)] → W p l e ({ frames := 10, cells := 0, slots := 0, locals := 630 }) s m args below meth c H locs 0 0 (MQ below (mz_i D cy ad am (fun r F G R S => mz_IF true F ∧ mz_IG G ∧ mz_IR [] true R ∧ (∀ k : Nat, k ∉ ([34, 38] : List Nat) → F k = Fa k) ∧ (∀ k : Nat, k ∉ ([] : List Nat) → R k = Ra k) ∧ (∀ k : Nat, k ∉ ([39, 40] : List Nat) → G k = Ga k) ∧ (-1) ≤ r.toInt ∧ r.toInt ≤ 9)) args s 0 0 (mz_W ad am)) (F0 m 102 ls [.int v12150, .int v11085]) := by
                      intro v12150 hq0_j12151 hq1_j12151 ls hl
                      refine lv_iadd hx hb dX13_nextVerse_102 ?_
                      refine tk_add rfl rfl (by omega) (by omega) (fun v12152 h_v12152 => ?_)
                      refine lv_istore (lv' := [(7, .int v12152), (6, .int v12147), (8, .int v11084), (5, .int v1639), (4, .int v1640), (3, .int v1641), (0, .ref am), (1, .int p1), (2, .int p2)]) hx hb dX13_nextVerse_103 hl (by decide) rfl (fun ls hl => ?_)
                      exact hj12133 v12152 v12147 _ _ _ _ _ _ (by omega) (by omega) (by omega) (by omega) hM hS hIF hIG hIR hFF hGG hRR hf10012 _ (lv_sub hl [2, 0, 1, 3, 4, 5, 6, 7, 8] rfl)
                    refine lv_if_eq (tgt := 101) hx hb dX13_nextVerse_94 (by decide) (fun c9 => ?_) (fun c9 => ?_)
                    · have hc12148 : v12141.toInt = 0 := (fi_eq rfl (show (0 : Int32).toInt = 0 by decide)).mp c9
                      refine lv_iconst (v := 1) hx hb dX13_nextVerse_101 (by decide) ?_
                      have hk_1 : (1 : Int32).toInt = 1 := by decide
                      exact hj12151 1 (by omega) (by omega) _ (lv_sub hl [0, 2, 4, 5, 6, 7, 8, 9] rfl)
                    · have hc12148 : ¬ (v12141.toInt = 0) := fun h9 => c9 ((fi_eq rfl (show (0 : Int32).toInt = 0 by decide)).mpr h9)
                      refine lv_iconst (v := 0) hx hb dX13_nextVerse_97 (by decide) ?_
                      refine lv_goto (tgt := 102) hx hb dX13_nextVerse_98 (by decide) ?_
                      have hk_0 : (0 : Int32).toInt = 0 := by decide
                      exact hj12151 0 (by omega) (by omega) _ (lv_sub hl [0, 2, 4, 5, 6, 7, 8, 9] rfl)
                  refine lv_if_eq (tgt := 86) hx hb dX13_nextVerse_79 (by decide) (fun c9 => ?_) (fun c9 => ?_)
                  · have hc12143 : v12141.toInt = 0 := (fi_eq rfl (show (0 : Int32).toInt = 0 by decide)).mp c9
                    refine lv_iconst (v := 0) hx hb dX13_nextVerse_86 (by decide) ?_
                    have hk_0 : (0 : Int32).toInt = 0 := by decide
                    exact hj12146 0 (by omega) (by omega) _ (lv_sub hl [0, 1, 2, 4, 5, 6, 7, 8, 9] rfl)
                  · have hc12143 : ¬ (v12141.toInt = 0) := fun h9 => c9 ((fi_eq rfl (show (0 : Int32).toInt = 0 by decide)).mpr h9)
                    refine lv_iconst (v := 1) hx hb dX13_nextVerse_82 (by decide) ?_
                    refine lv_goto (tgt := 87) hx hb dX13_nextVerse_83 (by decide) ?_
                    have hk_1 : (1 : Int32).toInt = 1 := by decide
                    exact hj12146 1 (by omega) (by omega) _ (lv_sub hl [0, 1, 2, 4, 5, 6, 7, 8, 9] rfl)
                refine lv_if_ne (tgt := 72) hx hb dX13_nextVerse_65 (by decide) (fun c9 => ?_) (fun c9 => ?_)
                · have hc12139 : ¬ (v12135.toInt = 0) := fun h9 => c9 ((fi_eq rfl (show (0 : Int32).toInt = 0 by decide)).mpr h9)
                  refine lv_iconst (v := 0) hx hb dX13_nextVerse_72 (by decide) ?_
                  have hk_0 : (0 : Int32).toInt = 0 := by decide
                  exact hj12142 0 (by omega) (by omega) _ (lv_sub hl [0, 1, 2, 3, 4, 5, 6, 7, 8] rfl)
                · have hc12139 : v12135.toInt = 0 := (fi_eq rfl (show (0 : Int32).toInt = 0 by decide)).mp c9
                  refine lv_iconst (v := 1) hx hb dX13_nextVerse_68 (by decide) ?_
                  refine lv_goto (tgt := 73) hx hb dX13_nextVerse_69 (by decide) ?_
                  have hk_1 : (1 : Int32).toInt = 1 := by decide
                  exact hj12142 1 (by omega) (by omega) _ (lv_sub hl [0, 1, 2, 3, 4, 5, 6, 7, 8] rfl)
        have hk_1 : (1 : Int32).toInt = 1 := by decide
        have hk_0 : (0 : Int32).toInt = 0 := by decide
        have hk_0 : (0 : Int32).toInt = 0 := by decide
        exact hl12042 1000 1 0 0 _ _ _ _ _ _ (by omega) (by omega) (by omega) (by omega) (by omega) hM hS hIF hIG hIR hFF hGG hRR hf10012 (by omega) _ (lv_sub hl [0, 1, 2, 3, 4, 5, 6, 7, 8] rfl)
  have hk_0 : (0 : Int32).toInt = 0 := by decide
  have hk_100000000 : (100000000 : Int32).toInt = 100000000 := by decide
  have hk_m1 : ((-1) : Int32).toInt = (-1) := by decide
  exact hl10011 11 0 100000000 (-1) _ _ _ _ _ _ (by omega) (by omega) (by omega) (by omega) (by omega) hM hS hIF hIG hIR (fun _ _ => rfl) (fun _ _ => rfl) (fun _ _ => rfl) (by omega) _ (lv_sub hl [0, 1, 2, 3, 4, 5] rfl)
