theorem dX13_stopped_0 : decode cX13_stopped 0 = .ok (.aload_n 0, 1) := by decide +kernel
theorem dX13_stopped_1 : decode cX13_stopped 1 = .ok (.iconst 0, 1) := by decide +kernel
theorem dX13_stopped_2 : decode cX13_stopped 2 = .ok (.putfield 170, 3) := by decide +kernel
theorem dX13_stopped_5 : decode cX13_stopped 5 = .ok (.aload_n 0, 1) := by decide +kernel
theorem dX13_stopped_6 : decode cX13_stopped 6 = .ok (.getfield 152, 3) := by decide +kernel
theorem dX13_stopped_9 : decode cX13_stopped 9 = .ok (.ireturn, 1) := by decide +kernel
set_option maxHeartbeats 4000000 in
set_option maxRecDepth 100000 in
theorem k_X13_stopped (l : Launch) (D : va_G) (cy : Nat → ClassId) (ld ad : Nat → Nat) (am : Nat) (hD : mz_D ad am) (Fa : Nat → Int32) (Ga : Nat → Int64) (Ra : Nat → Nat → Int32) (Sa : Nat → Nat → Int64) (hIF : mz_IF true Fa) (hIG : mz_IG Ga) (hIR : mz_IR [] true Ra) : Met l yX13_stopped (wl yX13_stopped cX13_stopped 1 (some .int)) ({ frames := 3, cells := 0, slots := 0, locals := 140 }) (mz_p D cy ld ad am Fa Ga Ra Sa [.ref am]) (mz_i D cy ad am (fun r F G R S => mz_IF true F ∧ mz_IG G ∧ mz_IR [] true R ∧ (∀ k : Nat, k ∉ ([0] : List Nat) → F k = Fa k) ∧ (∀ k : Nat, k ∉ ([] : List Nat) → R k = Ra k) ∧ (∀ k : Nat, k ∉ ([] : List Nat) → G k = Ga k))) 0 0 (mz_W ad am) := by sorry
