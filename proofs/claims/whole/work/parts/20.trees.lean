theorem iw_X3_nodeCount_X3 : ∀ w ∈ wsX30, w ∈ wsX3_nodeCount := by decide +kernel
set_option maxHeartbeats 4000000 in
set_option maxRecDepth 100000 in
theorem c_X3_nodeCount (l : Launch) (D : va_G) (cI cJ cB cZ : ClassId) (sz : Nat) (t0 : Nat) (t1 : Nat) (t2 : Nat) (t3 : Nat) (t4 : Nat) (t5 : Nat) (nd : Nat) (bd : Nat)  : Met l yX3_nodeCount wsX3_nodeCount ({ frames := 0, cells := 0, slots := 0, locals := 0 }) (va_Pc [.ref t0] (pW D (TY cI cJ cB cZ) [(t0, .inr (7, [.ref t1, .ref t2, .ref t3, .ref t4, .ref t5, .int (nI nd), .int (nI bd)]))] (fun _ => True) sz)) (va_Qi (fun (rv : Int32) (_ : Unit) => rv = nI nd) (qW D (TY cI cJ cB cZ) (va_A [(t0, .inr (7, [.ref t1, .ref t2, .ref t3, .ref t4, .ref t5, .int (nI nd), .int (nI bd)]))] sz) (fun _ => [(t0, .inr (7, [.ref t1, .ref t2, .ref t3, .ref t4, .ref t5, .int (nI nd), .int (nI bd)]))])) (va_A [(t0, .inr (7, [.ref t1, .ref t2, .ref t3, .ref t4, .ref t5, .int (nI nd), .int (nI bd)]))] sz)) 0 0 (va_A [(t0, .inr (7, [.ref t1, .ref t2, .ref t3, .ref t4, .ref t5, .int (nI nd), .int (nI bd)]))] sz) := by
  refine gx_met RX3 rfl (by decide) rfl (Nat.le_of_ble_eq_true rfl) ?_
  intro X hl hDx hAx C hQ hXP hsz hin
  subst hl; subst hDx
  rw [← hAx] at hQ
  refine g_lv [0] (lv' := [(0, .ref t0)]) rfl ?_
  refine g_aload_n C dX3_nodeCount_0 1 rfl rfl ?_
  refine g_get C iw_X3_nodeCount_X3 0 rfl rfl 5 (by decide) (by decide +kernel) rfl rfl dX3_nodeCount_1 4 rfl ?_
  exact g_iret C hQ (Nat.le_of_ble_eq_true rfl) (Nat.le_of_ble_eq_true rfl) dX3_nodeCount_4 () rfl rfl

theorem iw_X3_bundleCount_X3 : ∀ w ∈ wsX30, w ∈ wsX3_bundleCount := by decide +kernel
set_option maxHeartbeats 4000000 in
set_option maxRecDepth 100000 in
theorem c_X3_bundleCount (l : Launch) (D : va_G) (cI cJ cB cZ : ClassId) (sz : Nat) (t0 : Nat) (t1 : Nat) (t2 : Nat) (t3 : Nat) (t4 : Nat) (t5 : Nat) (nd : Nat) (bd : Nat)  : Met l yX3_bundleCount wsX3_bundleCount ({ frames := 0, cells := 0, slots := 0, locals := 0 }) (va_Pc [.ref t0] (pW D (TY cI cJ cB cZ) [(t0, .inr (7, [.ref t1, .ref t2, .ref t3, .ref t4, .ref t5, .int (nI nd), .int (nI bd)]))] (fun _ => True) sz)) (va_Qi (fun (rv : Int32) (_ : Unit) => rv = nI bd) (qW D (TY cI cJ cB cZ) (va_A [(t0, .inr (7, [.ref t1, .ref t2, .ref t3, .ref t4, .ref t5, .int (nI nd), .int (nI bd)]))] sz) (fun _ => [(t0, .inr (7, [.ref t1, .ref t2, .ref t3, .ref t4, .ref t5, .int (nI nd), .int (nI bd)]))])) (va_A [(t0, .inr (7, [.ref t1, .ref t2, .ref t3, .ref t4, .ref t5, .int (nI nd), .int (nI bd)]))] sz)) 0 0 (va_A [(t0, .inr (7, [.ref t1, .ref t2, .ref t3, .ref t4, .ref t5, .int (nI nd), .int (nI bd)]))] sz) := by
  refine gx_met RX3 rfl (by decide) rfl (Nat.le_of_ble_eq_true rfl) ?_
  intro X hl hDx hAx C hQ hXP hsz hin
  subst hl; subst hDx
  rw [← hAx] at hQ
  refine g_lv [0] (lv' := [(0, .ref t0)]) rfl ?_
  refine g_aload_n C dX3_bundleCount_0 1 rfl rfl ?_
  refine g_get C iw_X3_bundleCount_X3 0 rfl rfl 6 (by decide) (by decide +kernel) rfl rfl dX3_bundleCount_1 4 rfl ?_
  exact g_iret C hQ (Nat.le_of_ble_eq_true rfl) (Nat.le_of_ble_eq_true rfl) dX3_bundleCount_4 () rfl rfl

theorem iw_X3_cavitiesOf_X3 : ∀ w ∈ wsX30, w ∈ wsX3_cavitiesOf := by decide +kernel
set_option maxHeartbeats 4000000 in
set_option maxRecDepth 100000 in
theorem c_X3_cavitiesOf (l : Launch) (D : va_G) (cI cJ cB cZ : ClassId) (sz : Nat) (t0 : Nat) (t1 : Nat) (t2 : Nat) (t3 : Nat) (t4 : Nat) (t5 : Nat) (nd : Nat) (bd : Nat) (cav : Nat → Nat) (a : Nat) (ha : a < 16) : Met l yX3_cavitiesOf wsX3_cavitiesOf ({ frames := 0, cells := 0, slots := 0, locals := 0 }) (va_Pc [.ref t0, .int (nI a)] (pW D (TY cI cJ cB cZ) [(t0, .inr (7, [.ref t1, .ref t2, .ref t3, .ref t4, .ref t5, .int (nI nd), .int (nI bd)])), (t1, .inl (cI, 16, .inl (fun jj => nI (cav jj))))] (fun _ => True) sz)) (va_Qi (fun (rv : Int32) (_ : Unit) => rv = nI (cav a)) (qW D (TY cI cJ cB cZ) (va_A [(t0, .inr (7, [.ref t1, .ref t2, .ref t3, .ref t4, .ref t5, .int (nI nd), .int (nI bd)])), (t1, .inl (cI, 16, .inl (fun jj => nI (cav jj))))] sz) (fun _ => [(t0, .inr (7, [.ref t1, .ref t2, .ref t3, .ref t4, .ref t5, .int (nI nd), .int (nI bd)])), (t1, .inl (cI, 16, .inl (fun jj => nI (cav jj))))])) (va_A [(t0, .inr (7, [.ref t1, .ref t2, .ref t3, .ref t4, .ref t5, .int (nI nd), .int (nI bd)])), (t1, .inl (cI, 16, .inl (fun jj => nI (cav jj))))] sz)) 0 0 (va_A [(t0, .inr (7, [.ref t1, .ref t2, .ref t3, .ref t4, .ref t5, .int (nI nd), .int (nI bd)])), (t1, .inl (cI, 16, .inl (fun jj => nI (cav jj))))] sz) := by
  refine gx_met RX3 rfl (by decide) rfl (Nat.le_of_ble_eq_true rfl) ?_
  intro X hl hDx hAx C hQ hXP hsz hin
  subst hl; subst hDx
  rw [← hAx] at hQ
  refine g_lv [0, 1] (lv' := [(0, .ref t0), (1, .int (nI a))]) rfl ?_
  refine g_aload_n C dX3_cavitiesOf_0 1 rfl rfl ?_
  refine g_get C iw_X3_cavitiesOf_X3 0 rfl rfl 0 (by decide) (by decide +kernel) rfl rfl dX3_cavitiesOf_1 4 rfl ?_
  refine g_iload_n C dX3_cavitiesOf_4 5 rfl rfl ?_
  refine g_iald C 1 0 rfl rfl a rfl (by omega) (by decide) dX3_cavitiesOf_5 6 rfl ?_
  exact g_iret C hQ (Nat.le_of_ble_eq_true rfl) (Nat.le_of_ble_eq_true rfl) dX3_cavitiesOf_6 () rfl rfl

theorem iw_X3_firstNode_X3 : ∀ w ∈ wsX30, w ∈ wsX3_firstNode := by decide +kernel
set_option maxHeartbeats 4000000 in
set_option maxRecDepth 100000 in
theorem c_X3_firstNode (l : Launch) (D : va_G) (cI cJ cB cZ : ClassId) (sz : Nat) (t0 : Nat) (t1 : Nat) (t2 : Nat) (t3 : Nat) (t4 : Nat) (t5 : Nat) (nd : Nat) (bd : Nat) (fN : Nat → Nat) (a : Nat) (ha : a < 15) : Met l yX3_firstNode wsX3_firstNode ({ frames := 0, cells := 0, slots := 0, locals := 0 }) (va_Pc [.ref t0, .int (nI a)] (pW D (TY cI cJ cB cZ) [(t0, .inr (7, [.ref t1, .ref t2, .ref t3, .ref t4, .ref t5, .int (nI nd), .int (nI bd)])), (t2, .inl (cI, 15, .inl (fun jj => nI (fN jj))))] (fun _ => True) sz)) (va_Qi (fun (rv : Int32) (_ : Unit) => rv = nI (fN a)) (qW D (TY cI cJ cB cZ) (va_A [(t0, .inr (7, [.ref t1, .ref t2, .ref t3, .ref t4, .ref t5, .int (nI nd), .int (nI bd)])), (t2, .inl (cI, 15, .inl (fun jj => nI (fN jj))))] sz) (fun _ => [(t0, .inr (7, [.ref t1, .ref t2, .ref t3, .ref t4, .ref t5, .int (nI nd), .int (nI bd)])), (t2, .inl (cI, 15, .inl (fun jj => nI (fN jj))))])) (va_A [(t0, .inr (7, [.ref t1, .ref t2, .ref t3, .ref t4, .ref t5, .int (nI nd), .int (nI bd)])), (t2, .inl (cI, 15, .inl (fun jj => nI (fN jj))))] sz)) 0 0 (va_A [(t0, .inr (7, [.ref t1, .ref t2, .ref t3, .ref t4, .ref t5, .int (nI nd), .int (nI bd)])), (t2, .inl (cI, 15, .inl (fun jj => nI (fN jj))))] sz) := by
  refine gx_met RX3 rfl (by decide) rfl (Nat.le_of_ble_eq_true rfl) ?_
  intro X hl hDx hAx C hQ hXP hsz hin
  subst hl; subst hDx
  rw [← hAx] at hQ
  refine g_lv [0, 1] (lv' := [(0, .ref t0), (1, .int (nI a))]) rfl ?_
  refine g_aload_n C dX3_firstNode_0 1 rfl rfl ?_
  refine g_get C iw_X3_firstNode_X3 0 rfl rfl 1 (by decide) (by decide +kernel) rfl rfl dX3_firstNode_1 4 rfl ?_
  refine g_iload_n C dX3_firstNode_4 5 rfl rfl ?_
  refine g_iald C 1 0 rfl rfl a rfl (by omega) (by decide) dX3_firstNode_5 6 rfl ?_
  exact g_iret C hQ (Nat.le_of_ble_eq_true rfl) (Nat.le_of_ble_eq_true rfl) dX3_firstNode_6 () rfl rfl

theorem iw_X3_otherNode_X3 : ∀ w ∈ wsX30, w ∈ wsX3_otherNode := by decide +kernel
set_option maxHeartbeats 4000000 in
set_option maxRecDepth 100000 in
theorem c_X3_otherNode (l : Launch) (D : va_G) (cI cJ cB cZ : ClassId) (sz : Nat) (t0 : Nat) (t1 : Nat) (t2 : Nat) (t3 : Nat) (t4 : Nat) (t5 : Nat) (nd : Nat) (bd : Nat) (oN : Nat → Nat) (a : Nat) (ha : a < 15) : Met l yX3_otherNode wsX3_otherNode ({ frames := 0, cells := 0, slots := 0, locals := 0 }) (va_Pc [.ref t0, .int (nI a)] (pW D (TY cI cJ cB cZ) [(t0, .inr (7, [.ref t1, .ref t2, .ref t3, .ref t4, .ref t5, .int (nI nd), .int (nI bd)])), (t3, .inl (cI, 15, .inl (fun jj => nI (oN jj))))] (fun _ => True) sz)) (va_Qi (fun (rv : Int32) (_ : Unit) => rv = nI (oN a)) (qW D (TY cI cJ cB cZ) (va_A [(t0, .inr (7, [.ref t1, .ref t2, .ref t3, .ref t4, .ref t5, .int (nI nd), .int (nI bd)])), (t3, .inl (cI, 15, .inl (fun jj => nI (oN jj))))] sz) (fun _ => [(t0, .inr (7, [.ref t1, .ref t2, .ref t3, .ref t4, .ref t5, .int (nI nd), .int (nI bd)])), (t3, .inl (cI, 15, .inl (fun jj => nI (oN jj))))])) (va_A [(t0, .inr (7, [.ref t1, .ref t2, .ref t3, .ref t4, .ref t5, .int (nI nd), .int (nI bd)])), (t3, .inl (cI, 15, .inl (fun jj => nI (oN jj))))] sz)) 0 0 (va_A [(t0, .inr (7, [.ref t1, .ref t2, .ref t3, .ref t4, .ref t5, .int (nI nd), .int (nI bd)])), (t3, .inl (cI, 15, .inl (fun jj => nI (oN jj))))] sz) := by
  refine gx_met RX3 rfl (by decide) rfl (Nat.le_of_ble_eq_true rfl) ?_
  intro X hl hDx hAx C hQ hXP hsz hin
  subst hl; subst hDx
  rw [← hAx] at hQ
  refine g_lv [0, 1] (lv' := [(0, .ref t0), (1, .int (nI a))]) rfl ?_
  refine g_aload_n C dX3_otherNode_0 1 rfl rfl ?_
  refine g_get C iw_X3_otherNode_X3 0 rfl rfl 2 (by decide) (by decide +kernel) rfl rfl dX3_otherNode_1 4 rfl ?_
  refine g_iload_n C dX3_otherNode_4 5 rfl rfl ?_
  refine g_iald C 1 0 rfl rfl a rfl (by omega) (by decide) dX3_otherNode_5 6 rfl ?_
  exact g_iret C hQ (Nat.le_of_ble_eq_true rfl) (Nat.le_of_ble_eq_true rfl) dX3_otherNode_6 () rfl rfl

theorem iw_X3_bundleLength_X3 : ∀ w ∈ wsX30, w ∈ wsX3_bundleLength := by decide +kernel
set_option maxHeartbeats 4000000 in
set_option maxRecDepth 100000 in
theorem c_X3_bundleLength (l : Launch) (D : va_G) (cI cJ cB cZ : ClassId) (sz : Nat) (t0 : Nat) (t1 : Nat) (t2 : Nat) (t3 : Nat) (t4 : Nat) (t5 : Nat) (nd : Nat) (bd : Nat) (ln : Nat → Nat) (a : Nat) (ha : a < 15) : Met l yX3_bundleLength wsX3_bundleLength ({ frames := 0, cells := 0, slots := 0, locals := 0 }) (va_Pc [.ref t0, .int (nI a)] (pW D (TY cI cJ cB cZ) [(t0, .inr (7, [.ref t1, .ref t2, .ref t3, .ref t4, .ref t5, .int (nI nd), .int (nI bd)])), (t4, .inl (cI, 15, .inl (fun jj => nI (ln jj))))] (fun _ => True) sz)) (va_Qi (fun (rv : Int32) (_ : Unit) => rv = nI (ln a)) (qW D (TY cI cJ cB cZ) (va_A [(t0, .inr (7, [.ref t1, .ref t2, .ref t3, .ref t4, .ref t5, .int (nI nd), .int (nI bd)])), (t4, .inl (cI, 15, .inl (fun jj => nI (ln jj))))] sz) (fun _ => [(t0, .inr (7, [.ref t1, .ref t2, .ref t3, .ref t4, .ref t5, .int (nI nd), .int (nI bd)])), (t4, .inl (cI, 15, .inl (fun jj => nI (ln jj))))])) (va_A [(t0, .inr (7, [.ref t1, .ref t2, .ref t3, .ref t4, .ref t5, .int (nI nd), .int (nI bd)])), (t4, .inl (cI, 15, .inl (fun jj => nI (ln jj))))] sz)) 0 0 (va_A [(t0, .inr (7, [.ref t1, .ref t2, .ref t3, .ref t4, .ref t5, .int (nI nd), .int (nI bd)])), (t4, .inl (cI, 15, .inl (fun jj => nI (ln jj))))] sz) := by
  refine gx_met RX3 rfl (by decide) rfl (Nat.le_of_ble_eq_true rfl) ?_
  intro X hl hDx hAx C hQ hXP hsz hin
  subst hl; subst hDx
  rw [← hAx] at hQ
  refine g_lv [0, 1] (lv' := [(0, .ref t0), (1, .int (nI a))]) rfl ?_
  refine g_aload_n C dX3_bundleLength_0 1 rfl rfl ?_
  refine g_get C iw_X3_bundleLength_X3 0 rfl rfl 3 (by decide) (by decide +kernel) rfl rfl dX3_bundleLength_1 4 rfl ?_
  refine g_iload_n C dX3_bundleLength_4 5 rfl rfl ?_
  refine g_iald C 1 0 rfl rfl a rfl (by omega) (by decide) dX3_bundleLength_5 6 rfl ?_
  exact g_iret C hQ (Nat.le_of_ble_eq_true rfl) (Nat.le_of_ble_eq_true rfl) dX3_bundleLength_6 () rfl rfl

theorem iw_X3_wayBetween_X3 : ∀ w ∈ wsX30, w ∈ wsX3_wayBetween := by decide +kernel
set_option maxHeartbeats 4000000 in
set_option maxRecDepth 100000 in
theorem c_X3_wayBetween (l : Launch) (D : va_G) (cI cJ cB cZ : ClassId) (sz : Nat) (t0 : Nat) (t1 : Nat) (t2 : Nat) (t3 : Nat) (t4 : Nat) (t5 : Nat) (nd : Nat) (bd : Nat) (wy : Nat → Int64) (a : Nat) (b : Nat) (ha : a < 16) (hb : b < 16) : Met l yX3_wayBetween wsX3_wayBetween ({ frames := 0, cells := 0, slots := 0, locals := 0 }) (va_Pc [.ref t0, .int (nI a), .int (nI b)] (pW D (TY cI cJ cB cZ) [(t0, .inr (7, [.ref t1, .ref t2, .ref t3, .ref t4, .ref t5, .int (nI nd), .int (nI bd)])), (t5, .inl (cJ, 256, .inr (.inl wy)))] (fun _ => True) sz)) (va_Ql (fun (rv : Int64) (_ : Unit) => rv = wy (a * 16 + b)) (qW D (TY cI cJ cB cZ) (va_A [(t0, .inr (7, [.ref t1, .ref t2, .ref t3, .ref t4, .ref t5, .int (nI nd), .int (nI bd)])), (t5, .inl (cJ, 256, .inr (.inl wy)))] sz) (fun _ => [(t0, .inr (7, [.ref t1, .ref t2, .ref t3, .ref t4, .ref t5, .int (nI nd), .int (nI bd)])), (t5, .inl (cJ, 256, .inr (.inl wy)))])) (va_A [(t0, .inr (7, [.ref t1, .ref t2, .ref t3, .ref t4, .ref t5, .int (nI nd), .int (nI bd)])), (t5, .inl (cJ, 256, .inr (.inl wy)))] sz)) 0 0 (va_A [(t0, .inr (7, [.ref t1, .ref t2, .ref t3, .ref t4, .ref t5, .int (nI nd), .int (nI bd)])), (t5, .inl (cJ, 256, .inr (.inl wy)))] sz) := by
  refine gx_met RX3 rfl (by decide) rfl (Nat.le_of_ble_eq_true rfl) ?_
  intro X hl hDx hAx C hQ hXP hsz hin
  subst hl; subst hDx
  rw [← hAx] at hQ
  refine g_lv [0, 1, 2] (lv' := [(0, .ref t0), (1, .int (nI a)), (2, .int (nI b))]) rfl ?_
  refine g_aload_n C dX3_wayBetween_0 1 rfl rfl ?_
  refine g_get C iw_X3_wayBetween_X3 0 rfl rfl 4 (by decide) (by decide +kernel) rfl rfl dX3_wayBetween_1 4 rfl ?_
  refine g_iload_n C dX3_wayBetween_4 5 rfl rfl ?_
  refine g_bipush (v := nI 16) C dX3_wayBetween_5 7 rfl (by decide) ?_
  refine g_imuln C dX3_wayBetween_7 8 rfl ?_
  refine g_iload_n C dX3_wayBetween_8 9 rfl rfl ?_
  refine g_iaddn C dX3_wayBetween_9 10 rfl ?_
  refine g_lald C 1 1 rfl rfl ((a * 16) + b) rfl (by omega) (by decide) dX3_wayBetween_10 11 rfl ?_
  exact g_lret C hQ (Nat.le_of_ble_eq_true rfl) (Nat.le_of_ble_eq_true rfl) dX3_wayBetween_11 () rfl rfl

theorem iw_X3_setWay_X3 : ∀ w ∈ wsX30, w ∈ wsX3_setWay := by decide +kernel
set_option maxHeartbeats 4000000 in
set_option maxRecDepth 100000 in
theorem c_X3_setWay (l : Launch) (D : va_G) (cI cJ cB cZ : ClassId) (sz : Nat) (t0 : Nat) (t1 : Nat) (t2 : Nat) (t3 : Nat) (t4 : Nat) (t5 : Nat) (nd : Nat) (bd : Nat) (wy : Nat → Int64) (a : Nat) (b : Nat) (w : Int64) (ha : a < 16) (hb : b < 16) : Met l yX3_setWay wsX3_setWay ({ frames := 0, cells := 0, slots := 0, locals := 0 }) (va_Pc [.ref t0, .int (nI a), .int (nI b), .long w] (pW D (TY cI cJ cB cZ) [(t0, .inr (7, [.ref t1, .ref t2, .ref t3, .ref t4, .ref t5, .int (nI nd), .int (nI bd)])), (t5, .inl (cJ, 256, .inr (.inl wy)))] (fun _ => True) sz)) (va_Qv (fun (_ : Unit) => True) (qW D (TY cI cJ cB cZ) (va_A [(t0, .inr (7, [.ref t1, .ref t2, .ref t3, .ref t4, .ref t5, .int (nI nd), .int (nI bd)])), (t5, .inl (cJ, 256, .inr (.inl wy)))] sz) (fun _ => [(t0, .inr (7, [.ref t1, .ref t2, .ref t3, .ref t4, .ref t5, .int (nI nd), .int (nI bd)])), (t5, .inl (cJ, 256, .inr (.inl (sw wy a b w))))])) (va_A [(t0, .inr (7, [.ref t1, .ref t2, .ref t3, .ref t4, .ref t5, .int (nI nd), .int (nI bd)])), (t5, .inl (cJ, 256, .inr (.inl wy)))] sz)) 0 0 (va_A [(t0, .inr (7, [.ref t1, .ref t2, .ref t3, .ref t4, .ref t5, .int (nI nd), .int (nI bd)])), (t5, .inl (cJ, 256, .inr (.inl wy)))] sz) := by
  refine gx_met RX3 rfl (by decide) rfl (Nat.le_of_ble_eq_true rfl) ?_
  intro X hl hDx hAx C hQ hXP hsz hin
  subst hl; subst hDx
  rw [← hAx] at hQ
  refine g_lv [0, 1, 2, 3] (lv' := [(0, .ref t0), (1, .int (nI a)), (2, .int (nI b)), (3, .long w)]) rfl ?_
  refine g_aload_n C dX3_setWay_0 1 rfl rfl ?_
  refine g_get C iw_X3_setWay_X3 0 rfl rfl 4 (by decide) (by decide +kernel) rfl rfl dX3_setWay_1 4 rfl ?_
  refine g_iload_n C dX3_setWay_4 5 rfl rfl ?_
  refine g_bipush (v := nI 16) C dX3_setWay_5 7 rfl (by decide) ?_
  refine g_imuln C dX3_setWay_7 8 rfl ?_
  refine g_iload_n C dX3_setWay_8 9 rfl rfl ?_
  refine g_iaddn C dX3_setWay_9 10 rfl ?_
  refine g_lload_n C dX3_setWay_10 11 rfl rfl ?_
  refine g_last C 1 1 rfl rfl ((a * 16) + b) rfl (by omega) (by decide) dX3_setWay_11 12 rfl (ws' := [(t0, .inr (7, [.ref t1, .ref t2, .ref t3, .ref t4, .ref t5, .int (nI nd), .int (nI bd)])), (t5, .inl (cJ, 256, .inr (.inl (vp_updL wy ((a * 16) + b) w))))]) rfl ?_
  refine g_aload_n C dX3_setWay_12 13 rfl rfl ?_
  refine g_get C iw_X3_setWay_X3 0 rfl rfl 4 (by decide) (by decide +kernel) rfl rfl dX3_setWay_13 16 rfl ?_
  refine g_iload_n C dX3_setWay_16 17 rfl rfl ?_
  refine g_bipush (v := nI 16) C dX3_setWay_17 19 rfl (by decide) ?_
  refine g_imuln C dX3_setWay_19 20 rfl ?_
  refine g_iload_n C dX3_setWay_20 21 rfl rfl ?_
  refine g_iaddn C dX3_setWay_21 22 rfl ?_
  refine g_lload_n C dX3_setWay_22 23 rfl rfl ?_
  refine g_last C 1 1 rfl rfl ((b * 16) + a) rfl (by omega) (by decide) dX3_setWay_23 24 rfl (ws' := [(t0, .inr (7, [.ref t1, .ref t2, .ref t3, .ref t4, .ref t5, .int (nI nd), .int (nI bd)])), (t5, .inl (cJ, 256, .inr (.inl (vp_updL (vp_updL wy ((a * 16) + b) w) ((b * 16) + a) w))))]) rfl ?_
  exact g_vret C hQ (Nat.le_of_ble_eq_true rfl) (Nat.le_of_ble_eq_true rfl) dX3_setWay_24 () trivial rfl

theorem iw_X3_addNode_X3 : ∀ w ∈ wsX30, w ∈ wsX3_addNode := by decide +kernel
set_option maxHeartbeats 4000000 in
set_option maxRecDepth 100000 in
theorem c_X3_addNode (l : Launch) (D : va_G) (cI cJ cB cZ : ClassId) (sz : Nat) (t0 : Nat) (t1 : Nat) (t2 : Nat) (t3 : Nat) (t4 : Nat) (t5 : Nat) (nd : Nat) (bd : Nat) (cav : Nat → Nat) (wy : Nat → Int64) (k : Nat) (hd : nd < 16) : Met l yX3_addNode wsX3_addNode ({ frames := 1, cells := 0, slots := 0, locals := 24 }) (va_Pc [.ref t0, .int (nI k)] (pW D (TY cI cJ cB cZ) [(t0, .inr (7, [.ref t1, .ref t2, .ref t3, .ref t4, .ref t5, .int (nI nd), .int (nI bd)])), (t1, .inl (cI, 16, .inl (fun jj => nI (cav jj)))), (t5, .inl (cJ, 256, .inr (.inl wy)))] (fun _ => True) sz)) (va_Qi (fun (rv : Int32) (_ : Unit) => rv = nI nd) (qW D (TY cI cJ cB cZ) (va_A [(t0, .inr (7, [.ref t1, .ref t2, .ref t3, .ref t4, .ref t5, .int (nI nd), .int (nI bd)])), (t1, .inl (cI, 16, .inl (fun jj => nI (cav jj)))), (t5, .inl (cJ, 256, .inr (.inl wy)))] sz) (fun _ => [(t0, .inr (7, [.ref t1, .ref t2, .ref t3, .ref t4, .ref t5, .int (nI (nd + 1)), .int (nI bd)])), (t1, .inl (cI, 16, .inl (fun jj => nI ((updN cav nd k) jj)))), (t5, .inl (cJ, 256, .inr (.inl (sw (swl wy nd nd) nd nd 0))))])) (va_A [(t0, .inr (7, [.ref t1, .ref t2, .ref t3, .ref t4, .ref t5, .int (nI nd), .int (nI bd)])), (t1, .inl (cI, 16, .inl (fun jj => nI (cav jj)))), (t5, .inl (cJ, 256, .inr (.inl wy)))] sz)) 0 0 (va_A [(t0, .inr (7, [.ref t1, .ref t2, .ref t3, .ref t4, .ref t5, .int (nI nd), .int (nI bd)])), (t1, .inl (cI, 16, .inl (fun jj => nI (cav jj)))), (t5, .inl (cJ, 256, .inr (.inl wy)))] sz) := by
  refine gx_met RX3 rfl (by decide) rfl (Nat.le_of_ble_eq_true rfl) ?_
  intro X hl hDx hAx C hQ hXP hsz hin
  subst hl; subst hDx
  rw [← hAx] at hQ
  refine g_lv [0, 1] (lv' := [(0, .ref t0), (1, .int (nI k))]) rfl ?_
  refine g_aload_n C dX3_addNode_0 1 rfl rfl ?_
  refine g_get C iw_X3_addNode_X3 0 rfl rfl 5 (by decide) (by decide +kernel) rfl rfl dX3_addNode_1 4 rfl ?_
  refine g_bipush (v := nI 16) C dX3_addNode_4 6 rfl (by decide) ?_
  refine g_icmp_lt_n C dX3_addNode_6 11 9 (by decide) rfl (by omega) (by omega) (fun c6 => ?_) (fun c6 => ?_)
  · refine g_aload_n C dX3_addNode_11 12 rfl rfl ?_
    refine g_get C iw_X3_addNode_X3 0 rfl rfl 0 (by decide) (by decide +kernel) rfl rfl dX3_addNode_12 15 rfl ?_
    refine g_aload_n C dX3_addNode_15 16 rfl rfl ?_
    refine g_get C iw_X3_addNode_X3 0 rfl rfl 5 (by decide) (by decide +kernel) rfl rfl dX3_addNode_16 19 rfl ?_
    refine g_iload_n C dX3_addNode_19 20 rfl rfl ?_
    refine g_iast C 1 0 rfl rfl nd rfl (by omega) (by decide) dX3_addNode_20 21 rfl (ws' := [(t0, .inr (7, [.ref t1, .ref t2, .ref t3, .ref t4, .ref t5, .int (nI nd), .int (nI bd)])), (t1, .inl (cI, 16, .inl (fun jj => nI ((updN cav nd k) jj)))), (t5, .inl (cJ, 256, .inr (.inl wy)))]) (by rw [upd_nI]; rfl) ?_
    refine g_iconst (v := nI 0) C dX3_addNode_21 22 rfl (by decide) ?_
    refine g_istore_n C dX3_addNode_22 23 rfl (by decide) [1, 2, 0] (lv' := [(0, .ref t0), (1, .int (nI k)), (2, .int (nI 0))]) rfl ?_
    have hloop : ∀ (fuel i : Nat), i ≤ nd → nd + 1 ≤ i + fuel → gx X 0 0 [(t0, .inr (7, [.ref t1, .ref t2, .ref t3, .ref t4, .ref t5, .int (nI nd), .int (nI bd)])), (t1, .inl (cI, 16, .inl (fun jj => nI ((updN cav nd k) jj)))), (t5, .inl (cJ, 256, .inr (.inl (swl wy nd i))))] 23 [(0, .ref t0), (1, .int (nI k)), (2, .int (nI i))] [] := by
      intro fuel
      induction fuel with
      | zero => intro i h1 h2; exact absurd h2 (by omega)
      | succ fuel hloop_ih =>
        intro i hle hfu
        refine g_iload_n C dX3_addNode_23 24 rfl rfl ?_
        refine g_aload_n C dX3_addNode_24 25 rfl rfl ?_
        refine g_get C iw_X3_addNode_X3 0 rfl rfl 5 (by decide) (by decide +kernel) rfl rfl dX3_addNode_25 28 rfl ?_
        refine g_icmp_ge_n C dX3_addNode_28 49 31 (by decide) rfl (by omega) (by omega) (fun c28 => ?_) (fun c28 => ?_)
        · have e_i : nd = i := by omega
          subst e_i
          refine g_aload_n C dX3_addNode_49 50 rfl rfl ?_
          refine g_aload_n C dX3_addNode_50 51 rfl rfl ?_
          refine g_get C iw_X3_addNode_X3 0 rfl rfl 5 (by decide) (by decide +kernel) rfl rfl dX3_addNode_51 54 rfl ?_
          refine g_aload_n C dX3_addNode_54 55 rfl rfl ?_
          refine g_get C iw_X3_addNode_X3 0 rfl rfl 5 (by decide) (by decide +kernel) rfl rfl dX3_addNode_55 58 rfl ?_
          refine g_lconst (v := 0) C dX3_addNode_58 59 rfl (by decide) ?_
          refine g_callVv (ci := 7) (q0 := 0) (As := [.int (nI nd), .int (nI nd), .long 0]) (rest := []) (wr := [(t1, .inl (cI, 16, .inl (fun jj => nI ((updN cav nd k) jj))))]) (ws' := fun (_ : Unit) => [(t0, .inr (7, [.ref t1, .ref t2, .ref t3, .ref t4, .ref t5, .int (nI nd), .int (nI bd)])), (t1, .inl (cI, 16, .inl (fun jj => nI ((updN cav nd k) jj)))), (t5, .inl (cJ, 256, .inr (.inl (sw (swl wy nd nd) nd nd 0))))]) C (fun sz => c_X3_setWay _ _ cI cJ cB cZ sz t0 t1 t2 t3 t4 t5 nd bd (swl wy nd nd) nd nd 0 (by omega) (by omega)) gx_XP0 3 gX3_addNode_X3_setWay rfl rfl rfl (by decide +kernel) ⟨Nat.le_of_ble_eq_true rfl, Nat.le_of_ble_eq_true rfl⟩ rfl rfl [0, 2] [1] [1, 0, 2] rfl (by decide) rfl (by decide) (by decide) (fun _ => rfl) (by decide) rfl rfl (Nat.le_of_ble_eq_true rfl) dX3_addNode_59 ⟨Nat.le_of_ble_eq_true rfl, Nat.le_of_ble_eq_true rfl⟩ 62 rfl (fun _ _ => ?_)
          refine g_aload_n C dX3_addNode_62 63 rfl rfl ?_
          refine g_dup C dX3_addNode_63 64 rfl rfl ?_
          refine g_get C iw_X3_addNode_X3 0 rfl rfl 5 (by decide) (by decide +kernel) rfl rfl dX3_addNode_64 67 rfl ?_
          refine g_iconst (v := nI 1) C dX3_addNode_67 68 rfl (by decide) ?_
          refine g_iaddn C dX3_addNode_68 69 rfl ?_
          refine g_put C (ty := .int) iw_X3_addNode_X3 tyX3 tyX3_ok nmX3 0 rfl rfl 5 (by decide) (by decide +kernel) rfl rfl (by decide +kernel) rfl rfl (Nat.le_of_ble_eq_true rfl) dX3_addNode_69 72 rfl (ws' := [(t0, .inr (7, [.ref t1, .ref t2, .ref t3, .ref t4, .ref t5, .int (nI (nd + 1)), .int (nI bd)])), (t1, .inl (cI, 16, .inl (fun jj => nI ((updN cav nd k) jj)))), (t5, .inl (cJ, 256, .inr (.inl (sw (swl wy nd nd) nd nd 0))))]) rfl ?_
          refine g_aload_n C dX3_addNode_72 73 rfl rfl ?_
          refine g_get C iw_X3_addNode_X3 0 rfl rfl 5 (by decide) (by decide +kernel) rfl rfl dX3_addNode_73 76 rfl ?_
          refine g_iconst (v := nI 1) C dX3_addNode_76 77 rfl (by decide) ?_
          refine g_isubn C dX3_addNode_77 78 rfl (by omega) ?_
          exact g_iret C hQ (Nat.le_of_ble_eq_true rfl) (Nat.le_of_ble_eq_true rfl) dX3_addNode_78 () (by rw [show nd + 1 - 1 = nd by omega]) rfl
        · refine g_aload_n C dX3_addNode_31 32 rfl rfl ?_
          refine g_aload_n C dX3_addNode_32 33 rfl rfl ?_
          refine g_get C iw_X3_addNode_X3 0 rfl rfl 5 (by decide) (by decide +kernel) rfl rfl dX3_addNode_33 36 rfl ?_
          refine g_iload_n C dX3_addNode_36 37 rfl rfl ?_
          refine g_ldc2 C (-1) (by decide +kernel) dX3_addNode_37 40 rfl ?_
          refine g_callVv (ci := 7) (q0 := 0) (As := [.int (nI nd), .int (nI i), .long (-1)]) (rest := []) (wr := [(t1, .inl (cI, 16, .inl (fun jj => nI ((updN cav nd k) jj))))]) (ws' := fun (_ : Unit) => [(t0, .inr (7, [.ref t1, .ref t2, .ref t3, .ref t4, .ref t5, .int (nI nd), .int (nI bd)])), (t1, .inl (cI, 16, .inl (fun jj => nI ((updN cav nd k) jj)))), (t5, .inl (cJ, 256, .inr (.inl (sw (swl wy nd i) nd i (-1)))))]) C (fun sz => c_X3_setWay _ _ cI cJ cB cZ sz t0 t1 t2 t3 t4 t5 nd bd (swl wy nd i) nd i (-1) (by omega) (by omega)) gx_XP0 3 gX3_addNode_X3_setWay rfl rfl rfl (by decide +kernel) ⟨Nat.le_of_ble_eq_true rfl, Nat.le_of_ble_eq_true rfl⟩ rfl rfl [0, 2] [1] [1, 0, 2] rfl (by decide) rfl (by decide) (by decide) (fun _ => rfl) (by decide) rfl rfl (Nat.le_of_ble_eq_true rfl) dX3_addNode_40 ⟨Nat.le_of_ble_eq_true rfl, Nat.le_of_ble_eq_true rfl⟩ 43 rfl (fun _ _ => ?_)
          refine g_iinc (v := nI (i + 1)) C dX3_addNode_43 46 rfl rfl (nI_add i 1) (by decide) [1, 2, 0] (lv' := [(0, .ref t0), (1, .int (nI k)), (2, .int (nI (i + 1)))]) rfl ?_
          refine g_goto C dX3_addNode_46 23 (by decide) ?_
          rw [show sw (swl wy nd i) nd i (-1) = swl wy nd (i + 1) from rfl]
          exact hloop_ih (i + 1) (by omega) (by omega)
    exact hloop (nd + 1) 0 (by omega) (by omega)
  · exact absurd c6 (by omega)

set_option maxHeartbeats 4000000 in
set_option maxRecDepth 100000 in
theorem c_X3_addNode_full (l : Launch) (D : va_G) (cI cJ cB cZ : ClassId) (sz : Nat) (t0 : Nat) (t1 : Nat) (t2 : Nat) (t3 : Nat) (t4 : Nat) (t5 : Nat) (nd : Nat) (bd : Nat) (cav : Nat → Nat) (wy : Nat → Int64) (k : Nat) (hd : nd = 16) : Met l yX3_addNode wsX3_addNode ({ frames := 0, cells := 0, slots := 0, locals := 0 }) (va_Pc [.ref t0, .int (nI k)] (pW D (TY cI cJ cB cZ) [(t0, .inr (7, [.ref t1, .ref t2, .ref t3, .ref t4, .ref t5, .int (nI nd), .int (nI bd)])), (t1, .inl (cI, 16, .inl (fun jj => nI (cav jj)))), (t5, .inl (cJ, 256, .inr (.inl wy)))] (fun _ => True) sz)) (va_Qi (fun (rv : Int32) (_ : Unit) => rv = (-1)) (qW D (TY cI cJ cB cZ) (va_A [(t0, .inr (7, [.ref t1, .ref t2, .ref t3, .ref t4, .ref t5, .int (nI nd), .int (nI bd)])), (t1, .inl (cI, 16, .inl (fun jj => nI (cav jj)))), (t5, .inl (cJ, 256, .inr (.inl wy)))] sz) (fun _ => [(t0, .inr (7, [.ref t1, .ref t2, .ref t3, .ref t4, .ref t5, .int (nI nd), .int (nI bd)])), (t1, .inl (cI, 16, .inl (fun jj => nI (cav jj)))), (t5, .inl (cJ, 256, .inr (.inl wy)))])) (va_A [(t0, .inr (7, [.ref t1, .ref t2, .ref t3, .ref t4, .ref t5, .int (nI nd), .int (nI bd)])), (t1, .inl (cI, 16, .inl (fun jj => nI (cav jj)))), (t5, .inl (cJ, 256, .inr (.inl wy)))] sz)) 0 0 (va_A [(t0, .inr (7, [.ref t1, .ref t2, .ref t3, .ref t4, .ref t5, .int (nI nd), .int (nI bd)])), (t1, .inl (cI, 16, .inl (fun jj => nI (cav jj)))), (t5, .inl (cJ, 256, .inr (.inl wy)))] sz) := by
  refine gx_met RX3 rfl (by decide) rfl (Nat.le_of_ble_eq_true rfl) ?_
  intro X hl hDx hAx C hQ hXP hsz hin
  subst hl; subst hDx
  rw [← hAx] at hQ
  refine g_lv [0, 1] (lv' := [(0, .ref t0), (1, .int (nI k))]) rfl ?_
  refine g_aload_n C dX3_addNode_0 1 rfl rfl ?_
  refine g_get C iw_X3_addNode_X3 0 rfl rfl 5 (by decide) (by decide +kernel) rfl rfl dX3_addNode_1 4 rfl ?_
  refine g_bipush (v := nI 16) C dX3_addNode_4 6 rfl (by decide) ?_
  refine g_icmp_lt_n C dX3_addNode_6 11 9 (by decide) rfl (by omega) (by omega) (fun c6 => ?_) (fun c6 => ?_)
  · exact absurd c6 (by omega)
  · refine g_iconst (v := -1) C dX3_addNode_9 10 rfl (by decide) ?_
    exact g_iret C hQ (Nat.le_of_ble_eq_true rfl) (Nat.le_of_ble_eq_true rfl) dX3_addNode_10 () rfl rfl
