set_option maxHeartbeats 4000000 in
set_option maxRecDepth 100000 in
theorem c_X7_isNumber (l : Launch) (D : va_G) (cI cJ cB cZ : ClassId) (sz : Nat) (x : Int64)  : Met l yX7_isNumber wsX7_isNumber ({ frames := 1, cells := 0, slots := 0, locals := 25 }) (va_Pc [.long x] (pW D (TY cI cJ cB cZ) [] (fun _ => True) sz)) (va_Qi (fun (rv : Int32) (_ : Unit) => rv = bI (wiB x 1 1000000)) (qW D (TY cI cJ cB cZ) (va_A [] sz) (fun _ => [])) (va_A [] sz)) 0 0 (va_A [] sz) := by
  refine gx_met RX7 rfl (by decide) rfl (Nat.le_of_ble_eq_true rfl) ?_
  intro X hl hDx hAx C hQ hXP hsz hin
  subst hl; subst hDx
  rw [← hAx] at hQ
  refine g_lv [0] (lv' := [(0, .long x)]) rfl ?_
  refine g_lload_n C dX7_isNumber_0 1 rfl rfl ?_
  refine g_lconst (v := 1) C dX7_isNumber_1 2 rfl (by decide) ?_
  refine g_ldc2 C (1000000) (by decide +kernel) dX7_isNumber_2 5 rfl ?_
  refine g_callSi (As := [.long x, .long 1, .long (1000000)]) (rest := []) (wr := []) (ws' := fun (_ : Unit) => []) C (fun sz => c_X7_within _ _ cI cJ cB cZ sz x 1 (1000000) ) gx_XP0 3 gX7_isNumber_X7_within rfl rfl rfl (by decide +kernel) ⟨Nat.le_of_ble_eq_true rfl, Nat.le_of_ble_eq_true rfl⟩ [] [] [] rfl (by decide) rfl (by decide) (by decide) (fun _ => rfl) (by decide) rfl rfl (Nat.le_of_ble_eq_true rfl) dX7_isNumber_5 ⟨Nat.le_of_ble_eq_true rfl, Nat.le_of_ble_eq_true rfl⟩ 8 rfl (eqk ?_)
  exact g_zret C hQ (Nat.le_of_ble_eq_true rfl) (Nat.le_of_ble_eq_true rfl) dX7_isNumber_8 (bI_nar _) () rfl rfl
