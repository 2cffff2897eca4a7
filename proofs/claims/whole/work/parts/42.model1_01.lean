set_option maxHeartbeats 4000000 in
set_option maxRecDepth 100000 in
theorem c_X7_within (l : Launch) (D : va_G) (cI cJ cB cZ : ClassId) (sz : Nat) (x : Int64) (lo : Int64) (hi : Int64)  : Met l yX7_within wsX7_within ({ frames := 0, cells := 0, slots := 0, locals := 0 }) (va_Pc [.long x, .long lo, .long hi] (pW D (TY cI cJ cB cZ) [] (fun _ => True) sz)) (va_Qi (fun (rv : Int32) (_ : Unit) => rv = bI (wiB x lo hi)) (qW D (TY cI cJ cB cZ) (va_A [] sz) (fun _ => [])) (va_A [] sz)) 0 0 (va_A [] sz) := by
  refine gx_met RX7 rfl (by decide) rfl (Nat.le_of_ble_eq_true rfl) ?_
  intro X hl hDx hAx C hQ hXP hsz hin
  subst hl; subst hDx
  rw [← hAx] at hQ
  refine g_lv [0, 1, 2] (lv' := [(0, .long x), (2, .long lo), (4, .long hi)]) rfl ?_
  refine g_lload_n C dX7_within_0 1 rfl rfl ?_
  refine g_lload_n C dX7_within_1 2 rfl rfl ?_
  refine g_lc_lt C dX7_within_2 3 rfl dX7_within_3 17 6 (by decide) rfl (fun c2 => ?_) (fun c2 => ?_)
  · refine g_iconst (v := nI 0) C dX7_within_17 18 rfl (by decide) ?_
    exact g_zret C hQ (Nat.le_of_ble_eq_true rfl) (Nat.le_of_ble_eq_true rfl) dX7_within_18 rfl () (by simp [bI, nI_one, nI_0, wiB, c2]) rfl
  · refine g_lload_n C dX7_within_6 7 rfl rfl ?_
    refine g_lload C dX7_within_7 9 rfl rfl ?_
    refine g_lc_gt C dX7_within_9 10 rfl dX7_within_10 17 13 (by decide) rfl (fun c9 => ?_) (fun c9 => ?_)
    · refine g_iconst (v := nI 0) C dX7_within_17 18 rfl (by decide) ?_
      exact g_zret C hQ (Nat.le_of_ble_eq_true rfl) (Nat.le_of_ble_eq_true rfl) dX7_within_18 rfl () (by simp [bI, nI_one, nI_0, wiB, c2, c9]) rfl
    · refine g_iconst (v := nI 1) C dX7_within_13 14 rfl (by decide) ?_
      refine g_goto C dX7_within_14 18 (by decide) ?_
      exact g_zret C hQ (Nat.le_of_ble_eq_true rfl) (Nat.le_of_ble_eq_true rfl) dX7_within_18 rfl () (by simp [bI, nI_one, nI_0, wiB, c2, c9]) rfl
