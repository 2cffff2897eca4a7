set_option maxHeartbeats 4000000 in
set_option maxRecDepth 100000 in
theorem c_X6_hasBit (l : Launch) (D : va_G) (cI cJ cB cZ : ClassId) (sz : Nat) (x : Int32) (n : Nat) (hn : n < 32) : Met l yX6_hasBit wsX6_hasBit ({ frames := 0, cells := 0, slots := 0, locals := 0 }) (va_Pc [.int x, .int (nI n)] (pW D (TY cI cJ cB cZ) [] (fun _ => True) sz)) (va_Qi (fun (rv : Int32) (_ : Unit) => rv = bI (bt x n)) (qW D (TY cI cJ cB cZ) (va_A [] sz) (fun _ => [])) (va_A [] sz)) 0 0 (va_A [] sz) := by
  refine gx_met RX6 rfl (by decide) rfl (Nat.le_of_ble_eq_true rfl) ?_
  intro X hl hDx hAx C hQ hXP hsz hin
  subst hl; subst hDx
  rw [← hAx] at hQ
  refine g_lv [0, 1] (lv' := [(0, .int x), (1, .int (nI n))]) rfl ?_
  refine g_iload_n C dX6_hasBit_0 1 rfl rfl ?_
  refine g_iload_n C dX6_hasBit_1 2 rfl rfl ?_
  refine g_ishr C dX6_hasBit_2 3 rfl ?_
  refine g_iconst (v := nI 1) C dX6_hasBit_3 4 rfl (by decide) ?_
  refine g_iand C dX6_hasBit_4 5 rfl ?_
  refine g_if_eq C dX6_hasBit_5 12 8 (by decide) rfl (fun c5 => ?_) (fun c5 => ?_)
  · refine g_iconst (v := nI 0) C dX6_hasBit_12 13 rfl (by decide) ?_
    exact g_zret C hQ (Nat.le_of_ble_eq_true rfl) (Nat.le_of_ble_eq_true rfl) dX6_hasBit_13 rfl () (by rw [(hb_iff hn).mp c5]; rfl) rfl
  · refine g_iconst (v := nI 1) C dX6_hasBit_8 9 rfl (by decide) ?_
    refine g_goto C dX6_hasBit_9 13 (by decide) ?_
    exact g_zret C hQ (Nat.le_of_ble_eq_true rfl) (Nat.le_of_ble_eq_true rfl) dX6_hasBit_13 rfl () (by rw [show bt x n = true from by cases h : bt x n; exact absurd ((hb_iff hn).mpr h) c5; rfl]; rfl) rfl

set_option maxHeartbeats 4000000 in
set_option maxRecDepth 100000 in
theorem c_X6_nodeOf (l : Launch) (D : va_G) (cI cJ cB cZ : ClassId) (sz : Nat) (n : Nat) (hn : n < 2147483648) : Met l yX6_nodeOf wsX6_nodeOf ({ frames := 0, cells := 0, slots := 0, locals := 0 }) (va_Pc [.int (nI n)] (pW D (TY cI cJ cB cZ) [] (fun _ => True) sz)) (va_Qi (fun (rv : Int32) (_ : Unit) => rv = nI (n / 16)) (qW D (TY cI cJ cB cZ) (va_A [] sz) (fun _ => [])) (va_A [] sz)) 0 0 (va_A [] sz) := by
  refine gx_met RX6 rfl (by decide) rfl (Nat.le_of_ble_eq_true rfl) ?_
  intro X hl hDx hAx C hQ hXP hsz hin
  subst hl; subst hDx
  rw [← hAx] at hQ
  refine g_lv [0] (lv' := [(0, .int (nI n))]) rfl ?_
  refine g_iload_n C dX6_nodeOf_0 1 rfl rfl ?_
  refine g_bipush (v := nI 16) C dX6_nodeOf_1 3 rfl (by decide) ?_
  refine g_idivn C dX6_nodeOf_3 4 rfl (by omega) (by omega) (by omega) ?_
  exact g_iret C hQ (Nat.le_of_ble_eq_true rfl) (Nat.le_of_ble_eq_true rfl) dX6_nodeOf_4 () rfl rfl

set_option maxHeartbeats 4000000 in
set_option maxRecDepth 100000 in
theorem c_X6_endOf (l : Launch) (D : va_G) (cI cJ cB cZ : ClassId) (sz : Nat) (n : Nat) (k : Nat)  : Met l yX6_endOf wsX6_endOf ({ frames := 0, cells := 0, slots := 0, locals := 0 }) (va_Pc [.int (nI n), .int (nI k)] (pW D (TY cI cJ cB cZ) [] (fun _ => True) sz)) (va_Qi (fun (rv : Int32) (_ : Unit) => rv = nI (n * 16 + k)) (qW D (TY cI cJ cB cZ) (va_A [] sz) (fun _ => [])) (va_A [] sz)) 0 0 (va_A [] sz) := by
  refine gx_met RX6 rfl (by decide) rfl (Nat.le_of_ble_eq_true rfl) ?_
  intro X hl hDx hAx C hQ hXP hsz hin
  subst hl; subst hDx
  rw [← hAx] at hQ
  refine g_lv [0, 1] (lv' := [(0, .int (nI n)), (1, .int (nI k))]) rfl ?_
  refine g_iload_n C dX6_endOf_0 1 rfl rfl ?_
  refine g_bipush (v := nI 16) C dX6_endOf_1 3 rfl (by decide) ?_
  refine g_imuln C dX6_endOf_3 4 rfl ?_
  refine g_iload_n C dX6_endOf_4 5 rfl rfl ?_
  refine g_iaddn C dX6_endOf_5 6 rfl ?_
  exact g_iret C hQ (Nat.le_of_ble_eq_true rfl) (Nat.le_of_ble_eq_true rfl) dX6_endOf_6 () rfl rfl
