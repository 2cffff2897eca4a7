theorem iw_X5_count_X5 : ∀ w ∈ wsX50, w ∈ wsX5_count := by decide +kernel
set_option maxHeartbeats 4000000 in
set_option maxRecDepth 100000 in
theorem c_X5_count (l : Launch) (D : va_G) (cI cJ cB cZ : ClassId) (sz : Nat) (w0 : Nat) (w1 : Nat) (w2 : Nat) (w3 : Nat) (w4 : Nat) (w5 : Nat) (wn : Nat)  : Met l yX5_count wsX5_count ({ frames := 0, cells := 0, slots := 0, locals := 0 }) (va_Pc [.ref w0] (pW D (TY cI cJ cB cZ) [(w0, .inr (9, [.ref w1, .ref w2, .ref w3, .ref w4, .ref w5, .int (nI wn)]))] (fun _ => True) sz)) (va_Qi (fun (rv : Int32) (_ : Unit) => rv = nI wn) (qW D (TY cI cJ cB cZ) (va_A [(w0, .inr (9, [.ref w1, .ref w2, .ref w3, .ref w4, .ref w5, .int (nI wn)]))] sz) (fun _ => [(w0, .inr (9, [.ref w1, .ref w2, .ref w3, .ref w4, .ref w5, .int (nI wn)]))])) (va_A [(w0, .inr (9, [.ref w1, .ref w2, .ref w3, .ref w4, .ref w5, .int (nI wn)]))] sz)) 0 0 (va_A [(w0, .inr (9, [.ref w1, .ref w2, .ref w3, .ref w4, .ref w5, .int (nI wn)]))] sz) := by
  refine gx_met RX5 rfl (by decide) rfl (Nat.le_of_ble_eq_true rfl) ?_
  intro X hl hDx hAx C hQ hXP hsz hin
  subst hl; subst hDx
  rw [← hAx] at hQ
  refine g_lv [0] (lv' := [(0, .ref w0)]) rfl ?_
  refine g_aload_n C dX5_count_0 1 rfl rfl ?_
  refine g_get C iw_X5_count_X5 0 rfl rfl 5 (by decide) (by decide +kernel) rfl rfl dX5_count_1 4 rfl ?_
  exact g_iret C hQ (Nat.le_of_ble_eq_true rfl) (Nat.le_of_ble_eq_true rfl) dX5_count_4 () rfl rfl

theorem iw_X5_firstEnd_X5 : ∀ w ∈ wsX50, w ∈ wsX5_firstEnd := by decide +kernel
set_option maxHeartbeats 4000000 in
set_option maxRecDepth 100000 in
theorem c_X5_firstEnd (l : Launch) (D : va_G) (cI cJ cB cZ : ClassId) (sz : Nat) (w0 : Nat) (w1 : Nat) (w2 : Nat) (w3 : Nat) (w4 : Nat) (w5 : Nat) (wn : Nat) (eA : Nat → Nat) (a : Nat) (ha : a < 24) : Met l yX5_firstEnd wsX5_firstEnd ({ frames := 0, cells := 0, slots := 0, locals := 0 }) (va_Pc [.ref w0, .int (nI a)] (pW D (TY cI cJ cB cZ) [(w0, .inr (9, [.ref w1, .ref w2, .ref w3, .ref w4, .ref w5, .int (nI wn)])), (w1, .inl (cI, 24, .inl (fun jj => nI (eA jj))))] (fun _ => True) sz)) (va_Qi (fun (rv : Int32) (_ : Unit) => rv = nI (eA a)) (qW D (TY cI cJ cB cZ) (va_A [(w0, .inr (9, [.ref w1, .ref w2, .ref w3, .ref w4, .ref w5, .int (nI wn)])), (w1, .inl (cI, 24, .inl (fun jj => nI (eA jj))))] sz) (fun _ => [(w0, .inr (9, [.ref w1, .ref w2, .ref w3, .ref w4, .ref w5, .int (nI wn)])), (w1, .inl (cI, 24, .inl (fun jj => nI (eA jj))))])) (va_A [(w0, .inr (9, [.ref w1, .ref w2, .ref w3, .ref w4, .ref w5, .int (nI wn)])), (w1, .inl (cI, 24, .inl (fun jj => nI (eA jj))))] sz)) 0 0 (va_A [(w0, .inr (9, [.ref w1, .ref w2, .ref w3, .ref w4, .ref w5, .int (nI wn)])), (w1, .inl (cI, 24, .inl (fun jj => nI (eA jj))))] sz) := by
  refine gx_met RX5 rfl (by decide) rfl (Nat.le_of_ble_eq_true rfl) ?_
  intro X hl hDx hAx C hQ hXP hsz hin
  subst hl; subst hDx
  rw [← hAx] at hQ
  refine g_lv [0, 1] (lv' := [(0, .ref w0), (1, .int (nI a))]) rfl ?_
  refine g_aload_n C dX5_firstEnd_0 1 rfl rfl ?_
  refine g_get C iw_X5_firstEnd_X5 0 rfl rfl 0 (by decide) (by decide +kernel) rfl rfl dX5_firstEnd_1 4 rfl ?_
  refine g_iload_n C dX5_firstEnd_4 5 rfl rfl ?_
  refine g_iald C 1 0 rfl rfl a rfl (by omega) (by decide) dX5_firstEnd_5 6 rfl ?_
  exact g_iret C hQ (Nat.le_of_ble_eq_true rfl) (Nat.le_of_ble_eq_true rfl) dX5_firstEnd_6 () rfl rfl

theorem iw_X5_otherEnd_X5 : ∀ w ∈ wsX50, w ∈ wsX5_otherEnd := by decide +kernel
set_option maxHeartbeats 4000000 in
set_option maxRecDepth 100000 in
theorem c_X5_otherEnd (l : Launch) (D : va_G) (cI cJ cB cZ : ClassId) (sz : Nat) (w0 : Nat) (w1 : Nat) (w2 : Nat) (w3 : Nat) (w4 : Nat) (w5 : Nat) (wn : Nat) (eB : Nat → Nat) (a : Nat) (ha : a < 24) : Met l yX5_otherEnd wsX5_otherEnd ({ frames := 0, cells := 0, slots := 0, locals := 0 }) (va_Pc [.ref w0, .int (nI a)] (pW D (TY cI cJ cB cZ) [(w0, .inr (9, [.ref w1, .ref w2, .ref w3, .ref w4, .ref w5, .int (nI wn)])), (w2, .inl (cI, 24, .inl (fun jj => nI (eB jj))))] (fun _ => True) sz)) (va_Qi (fun (rv : Int32) (_ : Unit) => rv = nI (eB a)) (qW D (TY cI cJ cB cZ) (va_A [(w0, .inr (9, [.ref w1, .ref w2, .ref w3, .ref w4, .ref w5, .int (nI wn)])), (w2, .inl (cI, 24, .inl (fun jj => nI (eB jj))))] sz) (fun _ => [(w0, .inr (9, [.ref w1, .ref w2, .ref w3, .ref w4, .ref w5, .int (nI wn)])), (w2, .inl (cI, 24, .inl (fun jj => nI (eB jj))))])) (va_A [(w0, .inr (9, [.ref w1, .ref w2, .ref w3, .ref w4, .ref w5, .int (nI wn)])), (w2, .inl (cI, 24, .inl (fun jj => nI (eB jj))))] sz)) 0 0 (va_A [(w0, .inr (9, [.ref w1, .ref w2, .ref w3, .ref w4, .ref w5, .int (nI wn)])), (w2, .inl (cI, 24, .inl (fun jj => nI (eB jj))))] sz) := by
  refine gx_met RX5 rfl (by decide) rfl (Nat.le_of_ble_eq_true rfl) ?_
  intro X hl hDx hAx C hQ hXP hsz hin
  subst hl; subst hDx
  rw [← hAx] at hQ
  refine g_lv [0, 1] (lv' := [(0, .ref w0), (1, .int (nI a))]) rfl ?_
  refine g_aload_n C dX5_otherEnd_0 1 rfl rfl ?_
  refine g_get C iw_X5_otherEnd_X5 0 rfl rfl 1 (by decide) (by decide +kernel) rfl rfl dX5_otherEnd_1 4 rfl ?_
  refine g_iload_n C dX5_otherEnd_4 5 rfl rfl ?_
  refine g_iald C 1 0 rfl rfl a rfl (by omega) (by decide) dX5_otherEnd_5 6 rfl ?_
  exact g_iret C hQ (Nat.le_of_ble_eq_true rfl) (Nat.le_of_ble_eq_true rfl) dX5_otherEnd_6 () rfl rfl

theorem iw_X5_colourOf_X5 : ∀ w ∈ wsX50, w ∈ wsX5_colourOf := by decide +kernel
set_option maxHeartbeats 4000000 in
set_option maxRecDepth 100000 in
theorem c_X5_colourOf (l : Launch) (D : va_G) (cI cJ cB cZ : ClassId) (sz : Nat) (w0 : Nat) (w1 : Nat) (w2 : Nat) (w3 : Nat) (w4 : Nat) (w5 : Nat) (wn : Nat) (col : Nat → Nat) (a : Nat) (ha : a < 24) : Met l yX5_colourOf wsX5_colourOf ({ frames := 0, cells := 0, slots := 0, locals := 0 }) (va_Pc [.ref w0, .int (nI a)] (pW D (TY cI cJ cB cZ) [(w0, .inr (9, [.ref w1, .ref w2, .ref w3, .ref w4, .ref w5, .int (nI wn)])), (w3, .inl (cI, 24, .inl (fun jj => nI (col jj))))] (fun _ => True) sz)) (va_Qi (fun (rv : Int32) (_ : Unit) => rv = nI (col a)) (qW D (TY cI cJ cB cZ) (va_A [(w0, .inr (9, [.ref w1, .ref w2, .ref w3, .ref w4, .ref w5, .int (nI wn)])), (w3, .inl (cI, 24, .inl (fun jj => nI (col jj))))] sz) (fun _ => [(w0, .inr (9, [.ref w1, .ref w2, .ref w3, .ref w4, .ref w5, .int (nI wn)])), (w3, .inl (cI, 24, .inl (fun jj => nI (col jj))))])) (va_A [(w0, .inr (9, [.ref w1, .ref w2, .ref w3, .ref w4, .ref w5, .int (nI wn)])), (w3, .inl (cI, 24, .inl (fun jj => nI (col jj))))] sz)) 0 0 (va_A [(w0, .inr (9, [.ref w1, .ref w2, .ref w3, .ref w4, .ref w5, .int (nI wn)])), (w3, .inl (cI, 24, .inl (fun jj => nI (col jj))))] sz) := by
  refine gx_met RX5 rfl (by decide) rfl (Nat.le_of_ble_eq_true rfl) ?_
  intro X hl hDx hAx C hQ hXP hsz hin
  subst hl; subst hDx
  rw [← hAx] at hQ
  refine g_lv [0, 1] (lv' := [(0, .ref w0), (1, .int (nI a))]) rfl ?_
  refine g_aload_n C dX5_colourOf_0 1 rfl rfl ?_
  refine g_get C iw_X5_colourOf_X5 0 rfl rfl 2 (by decide) (by decide +kernel) rfl rfl dX5_colourOf_1 4 rfl ?_
  refine g_iload_n C dX5_colourOf_4 5 rfl rfl ?_
  refine g_iald C 1 0 rfl rfl a rfl (by omega) (by decide) dX5_colourOf_5 6 rfl ?_
  exact g_iret C hQ (Nat.le_of_ble_eq_true rfl) (Nat.le_of_ble_eq_true rfl) dX5_colourOf_6 () rfl rfl

theorem iw_X5_loadOf_X5 : ∀ w ∈ wsX50, w ∈ wsX5_loadOf := by decide +kernel
set_option maxHeartbeats 4000000 in
set_option maxRecDepth 100000 in
theorem c_X5_loadOf (l : Launch) (D : va_G) (cI cJ cB cZ : ClassId) (sz : Nat) (w0 : Nat) (w1 : Nat) (w2 : Nat) (w3 : Nat) (w4 : Nat) (w5 : Nat) (wn : Nat) (lo : Nat → Int64) (a : Nat) (ha : a < 24) : Met l yX5_loadOf wsX5_loadOf ({ frames := 0, cells := 0, slots := 0, locals := 0 }) (va_Pc [.ref w0, .int (nI a)] (pW D (TY cI cJ cB cZ) [(w0, .inr (9, [.ref w1, .ref w2, .ref w3, .ref w4, .ref w5, .int (nI wn)])), (w4, .inl (cJ, 24, .inr (.inl lo)))] (fun _ => True) sz)) (va_Ql (fun (rv : Int64) (_ : Unit) => rv = lo a) (qW D (TY cI cJ cB cZ) (va_A [(w0, .inr (9, [.ref w1, .ref w2, .ref w3, .ref w4, .ref w5, .int (nI wn)])), (w4, .inl (cJ, 24, .inr (.inl lo)))] sz) (fun _ => [(w0, .inr (9, [.ref w1, .ref w2, .ref w3, .ref w4, .ref w5, .int (nI wn)])), (w4, .inl (cJ, 24, .inr (.inl lo)))])) (va_A [(w0, .inr (9, [.ref w1, .ref w2, .ref w3, .ref w4, .ref w5, .int (nI wn)])), (w4, .inl (cJ, 24, .inr (.inl lo)))] sz)) 0 0 (va_A [(w0, .inr (9, [.ref w1, .ref w2, .ref w3, .ref w4, .ref w5, .int (nI wn)])), (w4, .inl (cJ, 24, .inr (.inl lo)))] sz) := by
  refine gx_met RX5 rfl (by decide) rfl (Nat.le_of_ble_eq_true rfl) ?_
  intro X hl hDx hAx C hQ hXP hsz hin
  subst hl; subst hDx
  rw [← hAx] at hQ
  refine g_lv [0, 1] (lv' := [(0, .ref w0), (1, .int (nI a))]) rfl ?_
  refine g_aload_n C dX5_loadOf_0 1 rfl rfl ?_
  refine g_get C iw_X5_loadOf_X5 0 rfl rfl 3 (by decide) (by decide +kernel) rfl rfl dX5_loadOf_1 4 rfl ?_
  refine g_iload_n C dX5_loadOf_4 5 rfl rfl ?_
  refine g_lald C 1 1 rfl rfl a rfl (by omega) (by decide) dX5_loadOf_5 6 rfl ?_
  exact g_lret C hQ (Nat.le_of_ble_eq_true rfl) (Nat.le_of_ble_eq_true rfl) dX5_loadOf_6 () rfl rfl

theorem iw_X5_dropOf_X5 : ∀ w ∈ wsX50, w ∈ wsX5_dropOf := by decide +kernel
set_option maxHeartbeats 4000000 in
set_option maxRecDepth 100000 in
theorem c_X5_dropOf (l : Launch) (D : va_G) (cI cJ cB cZ : ClassId) (sz : Nat) (w0 : Nat) (w1 : Nat) (w2 : Nat) (w3 : Nat) (w4 : Nat) (w5 : Nat) (wn : Nat) (dr : Nat → Int64) (a : Nat) (ha : a < 24) : Met l yX5_dropOf wsX5_dropOf ({ frames := 0, cells := 0, slots := 0, locals := 0 }) (va_Pc [.ref w0, .int (nI a)] (pW D (TY cI cJ cB cZ) [(w0, .inr (9, [.ref w1, .ref w2, .ref w3, .ref w4, .ref w5, .int (nI wn)])), (w5, .inl (cJ, 24, .inr (.inl dr)))] (fun _ => True) sz)) (va_Ql (fun (rv : Int64) (_ : Unit) => rv = dr a) (qW D (TY cI cJ cB cZ) (va_A [(w0, .inr (9, [.ref w1, .ref w2, .ref w3, .ref w4, .ref w5, .int (nI wn)])), (w5, .inl (cJ, 24, .inr (.inl dr)))] sz) (fun _ => [(w0, .inr (9, [.ref w1, .ref w2, .ref w3, .ref w4, .ref w5, .int (nI wn)])), (w5, .inl (cJ, 24, .inr (.inl dr)))])) (va_A [(w0, .inr (9, [.ref w1, .ref w2, .ref w3, .ref w4, .ref w5, .int (nI wn)])), (w5, .inl (cJ, 24, .inr (.inl dr)))] sz)) 0 0 (va_A [(w0, .inr (9, [.ref w1, .ref w2, .ref w3, .ref w4, .ref w5, .int (nI wn)])), (w5, .inl (cJ, 24, .inr (.inl dr)))] sz) := by
  refine gx_met RX5 rfl (by decide) rfl (Nat.le_of_ble_eq_true rfl) ?_
  intro X hl hDx hAx C hQ hXP hsz hin
  subst hl; subst hDx
  rw [← hAx] at hQ
  refine g_lv [0, 1] (lv' := [(0, .ref w0), (1, .int (nI a))]) rfl ?_
  refine g_aload_n C dX5_dropOf_0 1 rfl rfl ?_
  refine g_get C iw_X5_dropOf_X5 0 rfl rfl 4 (by decide) (by decide +kernel) rfl rfl dX5_dropOf_1 4 rfl ?_
  refine g_iload_n C dX5_dropOf_4 5 rfl rfl ?_
  refine g_lald C 1 1 rfl rfl a rfl (by omega) (by decide) dX5_dropOf_5 6 rfl ?_
  exact g_lret C hQ (Nat.le_of_ble_eq_true rfl) (Nat.le_of_ble_eq_true rfl) dX5_dropOf_6 () rfl rfl

theorem iw_X5_wireAt_X5 : ∀ w ∈ wsX50, w ∈ wsX5_wireAt := by decide +kernel
set_option maxHeartbeats 4000000 in
set_option maxRecDepth 100000 in
theorem c_X5_wireAt (l : Launch) (D : va_G) (cI cJ cB cZ : ClassId) (sz : Nat) (w0 : Nat) (w1 : Nat) (w2 : Nat) (w3 : Nat) (w4 : Nat) (w5 : Nat) (wn : Nat) (eA : Nat → Nat) (eB : Nat → Nat) (q : Nat) (hw : wn ≤ 24) (hA : ∀ k, k < wn → eA k < 256) (hB : ∀ k, k < wn → eB k < 256) (hq : q < 256) : Met l yX5_wireAt wsX5_wireAt ({ frames := 0, cells := 0, slots := 0, locals := 0 }) (va_Pc [.ref w0, .int (nI q)] (pW D (TY cI cJ cB cZ) [(w0, .inr (9, [.ref w1, .ref w2, .ref w3, .ref w4, .ref w5, .int (nI wn)])), (w1, .inl (cI, 24, .inl (fun jj => nI (eA jj)))), (w2, .inl (cI, 24, .inl (fun jj => nI (eB jj))))] (fun _ => True) sz)) (va_Qi (fun (rv : Int32) (_ : Unit) => rv = oI (wfind (atE eA eB q) wn)) (qW D (TY cI cJ cB cZ) (va_A [(w0, .inr (9, [.ref w1, .ref w2, .ref w3, .ref w4, .ref w5, .int (nI wn)])), (w1, .inl (cI, 24, .inl (fun jj => nI (eA jj)))), (w2, .inl (cI, 24, .inl (fun jj => nI (eB jj))))] sz) (fun _ => [(w0, .inr (9, [.ref w1, .ref w2, .ref w3, .ref w4, .ref w5, .int (nI wn)])), (w1, .inl (cI, 24, .inl (fun jj => nI (eA jj)))), (w2, .inl (cI, 24, .inl (fun jj => nI (eB jj))))])) (va_A [(w0, .inr (9, [.ref w1, .ref w2, .ref w3, .ref w4, .ref w5, .int (nI wn)])), (w1, .inl (cI, 24, .inl (fun jj => nI (eA jj)))), (w2, .inl (cI, 24, .inl (fun jj => nI (eB jj))))] sz)) 0 0 (va_A [(w0, .inr (9, [.ref w1, .ref w2, .ref w3, .ref w4, .ref w5, .int (nI wn)])), (w1, .inl (cI, 24, .inl (fun jj => nI (eA jj)))), (w2, .inl (cI, 24, .inl (fun jj => nI (eB jj))))] sz) := by
  refine gx_met RX5 rfl (by decide) rfl (Nat.le_of_ble_eq_true rfl) ?_
  intro X hl hDx hAx C hQ hXP hsz hin
  subst hl; subst hDx
  rw [← hAx] at hQ
  refine g_lv [0, 1] (lv' := [(0, .ref w0), (1, .int (nI q))]) rfl ?_
  refine g_iconst (v := nI 0) C dX5_wireAt_0 1 rfl (by decide) ?_
  refine g_istore_n C dX5_wireAt_1 2 rfl (by decide) [1, 2, 0] (lv' := [(0, .ref w0), (1, .int (nI q)), (2, .int (nI 0))]) rfl ?_
  have hloop : ∀ (fuel i : Nat), i ≤ wn → wn + 1 ≤ i + fuel → (wfind (atE eA eB q) i = none) → gx X 0 0 [(w0, .inr (9, [.ref w1, .ref w2, .ref w3, .ref w4, .ref w5, .int (nI wn)])), (w1, .inl (cI, 24, .inl (fun jj => nI (eA jj)))), (w2, .inl (cI, 24, .inl (fun jj => nI (eB jj))))] 2 [(0, .ref w0), (1, .int (nI q)), (2, .int (nI i))] [] := by
    intro fuel
    induction fuel with
    | zero => intro i h1 h2; exact absurd h2 (by omega)
    | succ fuel hloop_ih =>
      intro i hle hfu hno
      refine g_iload_n C dX5_wireAt_2 3 rfl rfl ?_
      refine g_aload_n C dX5_wireAt_3 4 rfl rfl ?_
      refine g_get C iw_X5_wireAt_X5 0 rfl rfl 5 (by decide) (by decide +kernel) rfl rfl dX5_wireAt_4 7 rfl ?_
      refine g_icmp_ge_n C dX5_wireAt_7 38 10 (by decide) rfl (by omega) (by omega) (fun c7 => ?_) (fun c7 => ?_)
      · have e_i : wn = i := by omega
        subst e_i
        refine g_iconst (v := -1) C dX5_wireAt_38 39 rfl (by decide) ?_
        exact g_iret C hQ (Nat.le_of_ble_eq_true rfl) (Nat.le_of_ble_eq_true rfl) dX5_wireAt_39 () (by rw [hno]; rfl) rfl
      · have hA1 := hA i (by omega)
        have hB1 := hB i (by omega)
        refine g_aload_n C dX5_wireAt_10 11 rfl rfl ?_
        refine g_get C iw_X5_wireAt_X5 0 rfl rfl 0 (by decide) (by decide +kernel) rfl rfl dX5_wireAt_11 14 rfl ?_
        refine g_iload_n C dX5_wireAt_14 15 rfl rfl ?_
        refine g_iald C 1 0 rfl rfl i rfl (by omega) (by decide) dX5_wireAt_15 16 rfl ?_
        refine g_iload_n C dX5_wireAt_16 17 rfl rfl ?_
        refine g_icmp_eq_n C dX5_wireAt_17 30 20 (by decide) rfl (by omega) (by omega) (fun c17 => ?_) (fun c17 => ?_)
        · refine g_iload_n C dX5_wireAt_30 31 rfl rfl ?_
          exact g_iret C hQ (Nat.le_of_ble_eq_true rfl) (Nat.le_of_ble_eq_true rfl) dX5_wireAt_31 () (by rw [wfind_at hno (by simp [atE, c17]) (by omega)]; rfl) rfl
        · refine g_aload_n C dX5_wireAt_20 21 rfl rfl ?_
          refine g_get C iw_X5_wireAt_X5 0 rfl rfl 1 (by decide) (by decide +kernel) rfl rfl dX5_wireAt_21 24 rfl ?_
          refine g_iload_n C dX5_wireAt_24 25 rfl rfl ?_
          refine g_iald C 2 0 rfl rfl i rfl (by omega) (by decide) dX5_wireAt_25 26 rfl ?_
          refine g_iload_n C dX5_wireAt_26 27 rfl rfl ?_
          refine g_icmp_ne_n C dX5_wireAt_27 32 30 (by decide) rfl (by omega) (by omega) (fun c27 => ?_) (fun c27 => ?_)
          · refine g_iinc (v := nI (i + 1)) C dX5_wireAt_32 35 rfl rfl (nI_add i 1) (by decide) [1, 2, 0] (lv' := [(0, .ref w0), (1, .int (nI q)), (2, .int (nI (i + 1)))]) rfl ?_
            refine g_goto C dX5_wireAt_35 2 (by decide) ?_
            exact hloop_ih (i + 1) (by omega) (by omega) (wfind_next hno (by simp [atE, c17, c27]))
          · refine g_iload_n C dX5_wireAt_30 31 rfl rfl ?_
            exact g_iret C hQ (Nat.le_of_ble_eq_true rfl) (Nat.le_of_ble_eq_true rfl) dX5_wireAt_31 () (by rw [wfind_at hno (by simp [atE, c27]) (by omega)]; rfl) rfl
  exact hloop (wn + 1) 0 (by omega) (by omega) rfl

theorem iw_X5_tellLoad_X5 : ∀ w ∈ wsX50, w ∈ wsX5_tellLoad := by decide +kernel
set_option maxHeartbeats 4000000 in
set_option maxRecDepth 100000 in
theorem c_X5_tellLoad (l : Launch) (D : va_G) (cI cJ cB cZ : ClassId) (sz : Nat) (w0 : Nat) (w1 : Nat) (w2 : Nat) (w3 : Nat) (w4 : Nat) (w5 : Nat) (wn : Nat) (lo : Nat → Int64) (dr : Nat → Int64) (a : Nat) (x : Int64) (y : Int64) (ha : a < 24) : Met l yX5_tellLoad wsX5_tellLoad ({ frames := 0, cells := 0, slots := 0, locals := 0 }) (va_Pc [.ref w0, .int (nI a), .long x, .long y] (pW D (TY cI cJ cB cZ) [(w0, .inr (9, [.ref w1, .ref w2, .ref w3, .ref w4, .ref w5, .int (nI wn)])), (w4, .inl (cJ, 24, .inr (.inl lo))), (w5, .inl (cJ, 24, .inr (.inl dr)))] (fun _ => True) sz)) (va_Qi (fun (rv : Int32) (_ : Unit) => rv = bI (!(decide (lo a = x) && decide (dr a = y)))) (qW D (TY cI cJ cB cZ) (va_A [(w0, .inr (9, [.ref w1, .ref w2, .ref w3, .ref w4, .ref w5, .int (nI wn)])), (w4, .inl (cJ, 24, .inr (.inl lo))), (w5, .inl (cJ, 24, .inr (.inl dr)))] sz) (fun _ => [(w0, .inr (9, [.ref w1, .ref w2, .ref w3, .ref w4, .ref w5, .int (nI wn)])), (w4, .inl (cJ, 24, .inr (.inl (vp_updL lo a x)))), (w5, .inl (cJ, 24, .inr (.inl (vp_updL dr a y))))])) (va_A [(w0, .inr (9, [.ref w1, .ref w2, .ref w3, .ref w4, .ref w5, .int (nI wn)])), (w4, .inl (cJ, 24, .inr (.inl lo))), (w5, .inl (cJ, 24, .inr (.inl dr)))] sz)) 0 0 (va_A [(w0, .inr (9, [.ref w1, .ref w2, .ref w3, .ref w4, .ref w5, .int (nI wn)])), (w4, .inl (cJ, 24, .inr (.inl lo))), (w5, .inl (cJ, 24, .inr (.inl dr)))] sz) := by
  refine gx_met RX5 rfl (by decide) rfl (Nat.le_of_ble_eq_true rfl) ?_
  intro X hl hDx hAx C hQ hXP hsz hin
  subst hl; subst hDx
  rw [← hAx] at hQ
  refine g_lv [0, 1, 2, 3] (lv' := [(0, .ref w0), (1, .int (nI a)), (2, .long x), (4, .long y)]) rfl ?_
  refine g_aload_n C dX5_tellLoad_0 1 rfl rfl ?_
  refine g_get C iw_X5_tellLoad_X5 0 rfl rfl 3 (by decide) (by decide +kernel) rfl rfl dX5_tellLoad_1 4 rfl ?_
  refine g_iload_n C dX5_tellLoad_4 5 rfl rfl ?_
  refine g_lald C 1 1 rfl rfl a rfl (by omega) (by decide) dX5_tellLoad_5 6 rfl ?_
  refine g_lload_n C dX5_tellLoad_6 7 rfl rfl ?_
  refine g_lc_ne C dX5_tellLoad_7 8 rfl dX5_tellLoad_8 23 11 (by decide) rfl (fun c7 => ?_) (fun c7 => ?_)
  · refine g_iconst (v := nI 1) C dX5_tellLoad_23 24 rfl (by decide) ?_
    refine g_goto C dX5_tellLoad_24 28 (by decide) ?_
    refine g_istore C dX5_tellLoad_28 30 rfl (by decide) [1, 2, 3, 4, 0] (lv' := [(0, .ref w0), (1, .int (nI a)), (2, .long x), (4, .long y), (6, .int (nI 1))]) rfl ?_
    refine g_aload_n C dX5_tellLoad_30 31 rfl rfl ?_
    refine g_get C iw_X5_tellLoad_X5 0 rfl rfl 3 (by decide) (by decide +kernel) rfl rfl dX5_tellLoad_31 34 rfl ?_
    refine g_iload_n C dX5_tellLoad_34 35 rfl rfl ?_
    refine g_lload_n C dX5_tellLoad_35 36 rfl rfl ?_
    refine g_last C 1 1 rfl rfl a rfl (by omega) (by decide) dX5_tellLoad_36 37 rfl (ws' := [(w0, .inr (9, [.ref w1, .ref w2, .ref w3, .ref w4, .ref w5, .int (nI wn)])), (w4, .inl (cJ, 24, .inr (.inl (vp_updL lo a x)))), (w5, .inl (cJ, 24, .inr (.inl dr)))]) rfl ?_
    refine g_aload_n C dX5_tellLoad_37 38 rfl rfl ?_
    refine g_get C iw_X5_tellLoad_X5 0 rfl rfl 4 (by decide) (by decide +kernel) rfl rfl dX5_tellLoad_38 41 rfl ?_
    refine g_iload_n C dX5_tellLoad_41 42 rfl rfl ?_
    refine g_lload C dX5_tellLoad_42 44 rfl rfl ?_
    refine g_last C 2 1 rfl rfl a rfl (by omega) (by decide) dX5_tellLoad_44 45 rfl (ws' := [(w0, .inr (9, [.ref w1, .ref w2, .ref w3, .ref w4, .ref w5, .int (nI wn)])), (w4, .inl (cJ, 24, .inr (.inl (vp_updL lo a x)))), (w5, .inl (cJ, 24, .inr (.inl (vp_updL dr a y))))]) rfl ?_
    refine g_iload C dX5_tellLoad_45 47 rfl rfl ?_
    exact g_zret C hQ (Nat.le_of_ble_eq_true rfl) (Nat.le_of_ble_eq_true rfl) dX5_tellLoad_47 rfl () (by simp [bI, nI_one, nI_0, c7]) rfl
  · refine g_aload_n C dX5_tellLoad_11 12 rfl rfl ?_
    refine g_get C iw_X5_tellLoad_X5 0 rfl rfl 4 (by decide) (by decide +kernel) rfl rfl dX5_tellLoad_12 15 rfl ?_
    refine g_iload_n C dX5_tellLoad_15 16 rfl rfl ?_
    refine g_lald C 2 1 rfl rfl a rfl (by omega) (by decide) dX5_tellLoad_16 17 rfl ?_
    refine g_lload C dX5_tellLoad_17 19 rfl rfl ?_
    refine g_lc_eq C dX5_tellLoad_19 20 rfl dX5_tellLoad_20 27 23 (by decide) rfl (fun c19 => ?_) (fun c19 => ?_)
    · refine g_iconst (v := nI 0) C dX5_tellLoad_27 28 rfl (by decide) ?_
      refine g_istore C dX5_tellLoad_28 30 rfl (by decide) [1, 2, 3, 4, 0] (lv' := [(0, .ref w0), (1, .int (nI a)), (2, .long x), (4, .long y), (6, .int (nI 0))]) rfl ?_
      refine g_aload_n C dX5_tellLoad_30 31 rfl rfl ?_
      refine g_get C iw_X5_tellLoad_X5 0 rfl rfl 3 (by decide) (by decide +kernel) rfl rfl dX5_tellLoad_31 34 rfl ?_
      refine g_iload_n C dX5_tellLoad_34 35 rfl rfl ?_
      refine g_lload_n C dX5_tellLoad_35 36 rfl rfl ?_
      refine g_last C 1 1 rfl rfl a rfl (by omega) (by decide) dX5_tellLoad_36 37 rfl (ws' := [(w0, .inr (9, [.ref w1, .ref w2, .ref w3, .ref w4, .ref w5, .int (nI wn)])), (w4, .inl (cJ, 24, .inr (.inl (vp_updL lo a x)))), (w5, .inl (cJ, 24, .inr (.inl dr)))]) rfl ?_
      refine g_aload_n C dX5_tellLoad_37 38 rfl rfl ?_
      refine g_get C iw_X5_tellLoad_X5 0 rfl rfl 4 (by decide) (by decide +kernel) rfl rfl dX5_tellLoad_38 41 rfl ?_
      refine g_iload_n C dX5_tellLoad_41 42 rfl rfl ?_
      refine g_lload C dX5_tellLoad_42 44 rfl rfl ?_
      refine g_last C 2 1 rfl rfl a rfl (by omega) (by decide) dX5_tellLoad_44 45 rfl (ws' := [(w0, .inr (9, [.ref w1, .ref w2, .ref w3, .ref w4, .ref w5, .int (nI wn)])), (w4, .inl (cJ, 24, .inr (.inl (vp_updL lo a x)))), (w5, .inl (cJ, 24, .inr (.inl (vp_updL dr a y))))]) rfl ?_
      refine g_iload C dX5_tellLoad_45 47 rfl rfl ?_
      exact g_zret C hQ (Nat.le_of_ble_eq_true rfl) (Nat.le_of_ble_eq_true rfl) dX5_tellLoad_47 rfl () (by simp [bI, nI_one, nI_0, c7, c19]) rfl
    · refine g_iconst (v := nI 1) C dX5_tellLoad_23 24 rfl (by decide) ?_
      refine g_goto C dX5_tellLoad_24 28 (by decide) ?_
      refine g_istore C dX5_tellLoad_28 30 rfl (by decide) [1, 2, 3, 4, 0] (lv' := [(0, .ref w0), (1, .int (nI a)), (2, .long x), (4, .long y), (6, .int (nI 1))]) rfl ?_
      refine g_aload_n C dX5_tellLoad_30 31 rfl rfl ?_
      refine g_get C iw_X5_tellLoad_X5 0 rfl rfl 3 (by decide) (by decide +kernel) rfl rfl dX5_tellLoad_31 34 rfl ?_
      refine g_iload_n C dX5_tellLoad_34 35 rfl rfl ?_
      refine g_lload_n C dX5_tellLoad_35 36 rfl rfl ?_
      refine g_last C 1 1 rfl rfl a rfl (by omega) (by decide) dX5_tellLoad_36 37 rfl (ws' := [(w0, .inr (9, [.ref w1, .ref w2, .ref w3, .ref w4, .ref w5, .int (nI wn)])), (w4, .inl (cJ, 24, .inr (.inl (vp_updL lo a x)))), (w5, .inl (cJ, 24, .inr (.inl dr)))]) rfl ?_
      refine g_aload_n C dX5_tellLoad_37 38 rfl rfl ?_
      refine g_get C iw_X5_tellLoad_X5 0 rfl rfl 4 (by decide) (by decide +kernel) rfl rfl dX5_tellLoad_38 41 rfl ?_
      refine g_iload_n C dX5_tellLoad_41 42 rfl rfl ?_
      refine g_lload C dX5_tellLoad_42 44 rfl rfl ?_
      refine g_last C 2 1 rfl rfl a rfl (by omega) (by decide) dX5_tellLoad_44 45 rfl (ws' := [(w0, .inr (9, [.ref w1, .ref w2, .ref w3, .ref w4, .ref w5, .int (nI wn)])), (w4, .inl (cJ, 24, .inr (.inl (vp_updL lo a x)))), (w5, .inl (cJ, 24, .inr (.inl (vp_updL dr a y))))]) rfl ?_
      refine g_iload C dX5_tellLoad_45 47 rfl rfl ?_
      exact g_zret C hQ (Nat.le_of_ble_eq_true rfl) (Nat.le_of_ble_eq_true rfl) dX5_tellLoad_47 rfl () (by simp [bI, nI_one, nI_0, c7, c19]) rfl

theorem iw_X5_endsAt_X5 : ∀ w ∈ wsX50, w ∈ wsX5_endsAt := by decide +kernel
set_option maxHeartbeats 4000000 in
set_option maxRecDepth 100000 in
theorem c_X5_endsAt (l : Launch) (D : va_G) (cI cJ cB cZ : ClassId) (sz : Nat) (w0 : Nat) (w1 : Nat) (w2 : Nat) (w3 : Nat) (w4 : Nat) (w5 : Nat) (wn : Nat) (eA : Nat → Nat) (eB : Nat → Nat) (a : Nat) (c : Nat) (ha : a < 24) (hA : eA a < 256) (hB : eB a < 256) (hc : c < 16) : Met l yX5_endsAt wsX5_endsAt ({ frames := 1, cells := 0, slots := 0, locals := 20 }) (va_Pc [.ref w0, .int (nI a), .int (nI c)] (pW D (TY cI cJ cB cZ) [(w0, .inr (9, [.ref w1, .ref w2, .ref w3, .ref w4, .ref w5, .int (nI wn)])), (w1, .inl (cI, 24, .inl (fun jj => nI (eA jj)))), (w2, .inl (cI, 24, .inl (fun jj => nI (eB jj))))] (nst [(RX5, 36, yX6_nodeOf, "HarnessRows")]) sz)) (va_Qi (fun (rv : Int32) (_ : Unit) => rv = bI (eAt eA eB a c)) (qW D (TY cI cJ cB cZ) (va_A [(w0, .inr (9, [.ref w1, .ref w2, .ref w3, .ref w4, .ref w5, .int (nI wn)])), (w1, .inl (cI, 24, .inl (fun jj => nI (eA jj)))), (w2, .inl (cI, 24, .inl (fun jj => nI (eB jj))))] sz) (fun _ => [(w0, .inr (9, [.ref w1, .ref w2, .ref w3, .ref w4, .ref w5, .int (nI wn)])), (w1, .inl (cI, 24, .inl (fun jj => nI (eA jj)))), (w2, .inl (cI, 24, .inl (fun jj => nI (eB jj))))])) (va_A [(w0, .inr (9, [.ref w1, .ref w2, .ref w3, .ref w4, .ref w5, .int (nI wn)])), (w1, .inl (cI, 24, .inl (fun jj => nI (eA jj)))), (w2, .inl (cI, 24, .inl (fun jj => nI (eB jj))))] sz)) 0 0 (va_A [(w0, .inr (9, [.ref w1, .ref w2, .ref w3, .ref w4, .ref w5, .int (nI wn)])), (w1, .inl (cI, 24, .inl (fun jj => nI (eA jj)))), (w2, .inl (cI, 24, .inl (fun jj => nI (eB jj))))] sz) := by
  refine gx_met RX5 rfl (by decide) rfl (Nat.le_of_ble_eq_true rfl) ?_
  intro X hl hDx hAx C hQ hXP hsz hin
  subst hl; subst hDx
  rw [← hAx] at hQ
  refine g_lv [0, 1, 2] (lv' := [(0, .ref w0), (1, .int (nI a)), (2, .int (nI c))]) rfl ?_
  refine g_aload_n C dX5_endsAt_0 1 rfl rfl ?_
  refine g_get C iw_X5_endsAt_X5 0 rfl rfl 0 (by decide) (by decide +kernel) rfl rfl dX5_endsAt_1 4 rfl ?_
  refine g_iload_n C dX5_endsAt_4 5 rfl rfl ?_
  refine g_iald C 1 0 rfl rfl a rfl (by omega) (by decide) dX5_endsAt_5 6 rfl ?_
  refine g_callSNi (As := [.int (nI (eA a))]) (rest := []) (wr := [(w0, .inr (9, [.ref w1, .ref w2, .ref w3, .ref w4, .ref w5, .int (nI wn)])), (w1, .inl (cI, 24, .inl (fun jj => nI (eA jj)))), (w2, .inl (cI, 24, .inl (fun jj => nI (eB jj))))]) (ws' := fun (_ : Unit) => [(w0, .inr (9, [.ref w1, .ref w2, .ref w3, .ref w4, .ref w5, .int (nI wn)])), (w1, .inl (cI, 24, .inl (fun jj => nI (eA jj)))), (w2, .inl (cI, 24, .inl (fun jj => nI (eB jj))))]) C (fun sz => c_X6_nodeOf _ _ cI cJ cB cZ sz (eA a) (by omega)) gx_XP0 1 ggX5_endsAt_X6_nodeOf (hXP (RX5, 36, yX6_nodeOf, "HarnessRows") (List.mem_of_getElem? (i := 0) rfl)) (by decide +kernel) (by decide +kernel) rfl rfl rfl (by decide +kernel) ⟨Nat.le_of_ble_eq_true rfl, Nat.le_of_ble_eq_true rfl⟩ [] [0, 1, 2] [0, 1, 2] rfl (by decide) rfl (by decide) (by decide) (fun _ => rfl) (by decide) rfl rfl (Nat.le_of_ble_eq_true rfl) dX5_endsAt_6 ⟨Nat.le_of_ble_eq_true rfl, Nat.le_of_ble_eq_true rfl⟩ 9 rfl (eqk ?_)
  refine g_iload_n C dX5_endsAt_9 10 rfl rfl ?_
  refine g_icmp_eq_n C dX5_endsAt_10 26 13 (by decide) rfl (by omega) (by omega) (fun c10 => ?_) (fun c10 => ?_)
  · refine g_iconst (v := nI 1) C dX5_endsAt_26 27 rfl (by decide) ?_
    refine g_goto C dX5_endsAt_27 31 (by decide) ?_
    exact g_zret C hQ (Nat.le_of_ble_eq_true rfl) (Nat.le_of_ble_eq_true rfl) dX5_endsAt_31 rfl () (by simp [bI, nI_one, nI_0, eAt, c10]) rfl
  · refine g_aload_n C dX5_endsAt_13 14 rfl rfl ?_
    refine g_get C iw_X5_endsAt_X5 0 rfl rfl 1 (by decide) (by decide +kernel) rfl rfl dX5_endsAt_14 17 rfl ?_
    refine g_iload_n C dX5_endsAt_17 18 rfl rfl ?_
    refine g_iald C 2 0 rfl rfl a rfl (by omega) (by decide) dX5_endsAt_18 19 rfl ?_
    refine g_callSNi (As := [.int (nI (eB a))]) (rest := []) (wr := [(w0, .inr (9, [.ref w1, .ref w2, .ref w3, .ref w4, .ref w5, .int (nI wn)])), (w1, .inl (cI, 24, .inl (fun jj => nI (eA jj)))), (w2, .inl (cI, 24, .inl (fun jj => nI (eB jj))))]) (ws' := fun (_ : Unit) => [(w0, .inr (9, [.ref w1, .ref w2, .ref w3, .ref w4, .ref w5, .int (nI wn)])), (w1, .inl (cI, 24, .inl (fun jj => nI (eA jj)))), (w2, .inl (cI, 24, .inl (fun jj => nI (eB jj))))]) C (fun sz => c_X6_nodeOf _ _ cI cJ cB cZ sz (eB a) (by omega)) gx_XP0 1 ggX5_endsAt_X6_nodeOf (hXP (RX5, 36, yX6_nodeOf, "HarnessRows") (List.mem_of_getElem? (i := 0) rfl)) (by decide +kernel) (by decide +kernel) rfl rfl rfl (by decide +kernel) ⟨Nat.le_of_ble_eq_true rfl, Nat.le_of_ble_eq_true rfl⟩ [] [0, 1, 2] [0, 1, 2] rfl (by decide) rfl (by decide) (by decide) (fun _ => rfl) (by decide) rfl rfl (Nat.le_of_ble_eq_true rfl) dX5_endsAt_19 ⟨Nat.le_of_ble_eq_true rfl, Nat.le_of_ble_eq_true rfl⟩ 22 rfl (eqk ?_)
    refine g_iload_n C dX5_endsAt_22 23 rfl rfl ?_
    refine g_icmp_ne_n C dX5_endsAt_23 30 26 (by decide) rfl (by omega) (by omega) (fun c23 => ?_) (fun c23 => ?_)
    · refine g_iconst (v := nI 0) C dX5_endsAt_30 31 rfl (by decide) ?_
      exact g_zret C hQ (Nat.le_of_ble_eq_true rfl) (Nat.le_of_ble_eq_true rfl) dX5_endsAt_31 rfl () (by simp [bI, nI_one, nI_0, eAt, c10, c23]) rfl
    · refine g_iconst (v := nI 1) C dX5_endsAt_26 27 rfl (by decide) ?_
      refine g_goto C dX5_endsAt_27 31 (by decide) ?_
      exact g_zret C hQ (Nat.le_of_ble_eq_true rfl) (Nat.le_of_ble_eq_true rfl) dX5_endsAt_31 rfl () (by simp [bI, nI_one, nI_0, eAt, c10, c23]) rfl

theorem iw_X5_freeColour_X5 : ∀ w ∈ wsX50, w ∈ wsX5_freeColour := by decide +kernel
set_option maxHeartbeats 4000000 in
set_option maxRecDepth 100000 in
theorem c_X5_freeColour (l : Launch) (D : va_G) (cI cJ cB cZ : ClassId) (sz : Nat) (w0 : Nat) (w1 : Nat) (w2 : Nat) (w3 : Nat) (w4 : Nat) (w5 : Nat) (wn : Nat) (eA : Nat → Nat) (eB : Nat → Nat) (col : Nat → Nat) (a : Nat) (b : Nat) (hw : wn ≤ 24) (hA : ∀ k, k < wn → eA k < 256) (hB : ∀ k, k < wn → eB k < 256) (ha : a < 16) (hb : b < 16) : Met l yX5_freeColour wsX5_freeColour ({ frames := 2, cells := 0, slots := 0, locals := 42 }) (va_Pc [.ref w0, .int (nI a), .int (nI b)] (pW D (TY cI cJ cB cZ) [(w0, .inr (9, [.ref w1, .ref w2, .ref w3, .ref w4, .ref w5, .int (nI wn)])), (w1, .inl (cI, 24, .inl (fun jj => nI (eA jj)))), (w2, .inl (cI, 24, .inl (fun jj => nI (eB jj)))), (w3, .inl (cI, 24, .inl (fun jj => nI (col jj))))] (nst [(RX5, 36, yX6_nodeOf, "HarnessRows"), (RX5, 49, yX6_hasBit, "HarnessRows")]) sz)) (va_Qi (fun (rv : Int32) (_ : Unit) => rv = nI (frc (tk eA eB col a b wn))) (qW D (TY cI cJ cB cZ) (va_A [(w0, .inr (9, [.ref w1, .ref w2, .ref w3, .ref w4, .ref w5, .int (nI wn)])), (w1, .inl (cI, 24, .inl (fun jj => nI (eA jj)))), (w2, .inl (cI, 24, .inl (fun jj => nI (eB jj)))), (w3, .inl (cI, 24, .inl (fun jj => nI (col jj))))] sz) (fun _ => [(w0, .inr (9, [.ref w1, .ref w2, .ref w3, .ref w4, .ref w5, .int (nI wn)])), (w1, .inl (cI, 24, .inl (fun jj => nI (eA jj)))), (w2, .inl (cI, 24, .inl (fun jj => nI (eB jj)))), (w3, .inl (cI, 24, .inl (fun jj => nI (col jj))))])) (va_A [(w0, .inr (9, [.ref w1, .ref w2, .ref w3, .ref w4, .ref w5, .int (nI wn)])), (w1, .inl (cI, 24, .inl (fun jj => nI (eA jj)))), (w2, .inl (cI, 24, .inl (fun jj => nI (eB jj)))), (w3, .inl (cI, 24, .inl (fun jj => nI (col jj))))] sz)) 0 0 (va_A [(w0, .inr (9, [.ref w1, .ref w2, .ref w3, .ref w4, .ref w5, .int (nI wn)])), (w1, .inl (cI, 24, .inl (fun jj => nI (eA jj)))), (w2, .inl (cI, 24, .inl (fun jj => nI (eB jj)))), (w3, .inl (cI, 24, .inl (fun jj => nI (col jj))))] sz) := by
  refine gx_met RX5 rfl (by decide) rfl (Nat.le_of_ble_eq_true rfl) ?_
  intro X hl hDx hAx C hQ hXP hsz hin
  subst hl; subst hDx
  rw [← hAx] at hQ
  refine g_lv [0, 1, 2] (lv' := [(0, .ref w0), (1, .int (nI a)), (2, .int (nI b))]) rfl ?_
  refine g_iconst (v := nI 0) C dX5_freeColour_0 1 rfl (by decide) ?_
  refine g_istore_n C dX5_freeColour_1 2 rfl (by decide) [1, 2, 3, 0] (lv' := [(0, .ref w0), (1, .int (nI a)), (2, .int (nI b)), (3, .int (nI 0))]) rfl ?_
  refine g_iconst (v := nI 0) C dX5_freeColour_2 3 rfl (by decide) ?_
  refine g_istore C dX5_freeColour_3 5 rfl (by decide) [1, 2, 3, 4, 0] (lv' := [(0, .ref w0), (1, .int (nI a)), (2, .int (nI b)), (3, .int (nI 0)), (4, .int (nI 0))]) rfl ?_
  have hloop : ∀ (fuel i : Nat), i ≤ wn → wn + 1 ≤ i + fuel → gx X 0 0 [(w0, .inr (9, [.ref w1, .ref w2, .ref w3, .ref w4, .ref w5, .int (nI wn)])), (w1, .inl (cI, 24, .inl (fun jj => nI (eA jj)))), (w2, .inl (cI, 24, .inl (fun jj => nI (eB jj)))), (w3, .inl (cI, 24, .inl (fun jj => nI (col jj))))] 5 [(0, .ref w0), (1, .int (nI a)), (2, .int (nI b)), (3, .int (tk eA eB col a b i)), (4, .int (nI i))] [] := by
    intro fuel
    induction fuel with
    | zero => intro i h1 h2; exact absurd h2 (by omega)
    | succ fuel hloop_ih =>
      intro i hle hfu
      refine g_iload C dX5_freeColour_5 7 rfl rfl ?_
      refine g_aload_n C dX5_freeColour_7 8 rfl rfl ?_
      refine g_get C iw_X5_freeColour_X5 0 rfl rfl 5 (by decide) (by decide +kernel) rfl rfl dX5_freeColour_8 11 rfl ?_
      refine g_icmp_ge_n C dX5_freeColour_11 52 14 (by decide) rfl (by omega) (by omega) (fun c11 => ?_) (fun c11 => ?_)
      · have e_i : wn = i := by omega
        subst e_i
        refine g_iconst (v := nI 0) C dX5_freeColour_52 53 rfl (by decide) ?_
        refine g_istore C dX5_freeColour_53 55 rfl (by decide) [1, 2, 3, 4, 0] (lv' := [(0, .ref w0), (1, .int (nI a)), (2, .int (nI b)), (3, .int (tk eA eB col a b wn)), (4, .int (nI 0))]) rfl ?_
        have hfree : ∀ (fuel f : Nat), f ≤ 24 → 24 + 1 ≤ f + fuel → (wfind (fun c => ! bt (tk eA eB col a b wn) c) f = none) → gx X 0 0 [(w0, .inr (9, [.ref w1, .ref w2, .ref w3, .ref w4, .ref w5, .int (nI wn)])), (w1, .inl (cI, 24, .inl (fun jj => nI (eA jj)))), (w2, .inl (cI, 24, .inl (fun jj => nI (eB jj)))), (w3, .inl (cI, 24, .inl (fun jj => nI (col jj))))] 55 [(0, .ref w0), (1, .int (nI a)), (2, .int (nI b)), (3, .int (tk eA eB col a b wn)), (4, .int (nI f))] [] := by
          intro fuel
          induction fuel with
          | zero => intro f h1 h2; exact absurd h2 (by omega)
          | succ fuel hfree_ih =>
            intro f hle hfu hnf
            refine g_iload C dX5_freeColour_55 57 rfl rfl ?_
            refine g_bipush (v := nI 24) C dX5_freeColour_57 59 rfl (by decide) ?_
            refine g_icmp_ge_n C dX5_freeColour_59 77 62 (by decide) rfl (by omega) (by omega) (fun c59 => ?_) (fun c59 => ?_)
            · refine g_iload C dX5_freeColour_77 79 rfl rfl ?_
              exact g_iret C hQ (Nat.le_of_ble_eq_true rfl) (Nat.le_of_ble_eq_true rfl) dX5_freeColour_79 () (frc_24 hnf (by omega)) rfl
            · refine g_iload_n C dX5_freeColour_62 63 rfl rfl ?_
              refine g_iload C dX5_freeColour_63 65 rfl rfl ?_
              refine g_callSNi (As := [.int (tk eA eB col a b wn), .int (nI f)]) (rest := []) (wr := [(w0, .inr (9, [.ref w1, .ref w2, .ref w3, .ref w4, .ref w5, .int (nI wn)])), (w1, .inl (cI, 24, .inl (fun jj => nI (eA jj)))), (w2, .inl (cI, 24, .inl (fun jj => nI (eB jj)))), (w3, .inl (cI, 24, .inl (fun jj => nI (col jj))))]) (ws' := fun (_ : Unit) => [(w0, .inr (9, [.ref w1, .ref w2, .ref w3, .ref w4, .ref w5, .int (nI wn)])), (w1, .inl (cI, 24, .inl (fun jj => nI (eA jj)))), (w2, .inl (cI, 24, .inl (fun jj => nI (eB jj)))), (w3, .inl (cI, 24, .inl (fun jj => nI (col jj))))]) C (fun sz => c_X6_hasBit _ _ cI cJ cB cZ sz (tk eA eB col a b wn) f (by omega)) gx_XP0 2 ggX5_freeColour_X6_hasBit (hXP (RX5, 49, yX6_hasBit, "HarnessRows") (List.mem_of_getElem? (i := 1) rfl)) (by decide +kernel) (by decide +kernel) rfl rfl rfl (by decide +kernel) ⟨Nat.le_of_ble_eq_true rfl, Nat.le_of_ble_eq_true rfl⟩ [] [0, 1, 2, 3] [0, 1, 2, 3] rfl (by decide) rfl (by decide) (by decide) (fun _ => rfl) (by decide) rfl rfl (Nat.le_of_ble_eq_true rfl) dX5_freeColour_65 ⟨Nat.le_of_ble_eq_true rfl, Nat.le_of_ble_eq_true rfl⟩ 68 rfl (eqk ?_)
              refine g_if_eq_b C dX5_freeColour_68 77 71 (by decide) rfl (fun c68 => ?_) (fun c68 => ?_)
              · refine g_iload C dX5_freeColour_77 79 rfl rfl ?_
                exact g_iret C hQ (Nat.le_of_ble_eq_true rfl) (Nat.le_of_ble_eq_true rfl) dX5_freeColour_79 () (frc_at hnf c68 (by omega)) rfl
              · refine g_iinc (v := nI (f + 1)) C dX5_freeColour_71 74 rfl rfl (nI_add f 1) (by decide) [1, 2, 3, 4, 0] (lv' := [(0, .ref w0), (1, .int (nI a)), (2, .int (nI b)), (3, .int (tk eA eB col a b wn)), (4, .int (nI (f + 1)))]) rfl ?_
                refine g_goto C dX5_freeColour_74 55 (by decide) ?_
                exact hfree_ih (f + 1) (by omega) (by omega) (wfind_next hnf (by simp [c68]))
        exact hfree (24 + 1) 0 (by omega) (by omega) rfl
      · have hA1 := hA i (by omega)
        have hB1 := hB i (by omega)
        refine g_aload_n C dX5_freeColour_14 15 rfl rfl ?_
        refine g_iload C dX5_freeColour_15 17 rfl rfl ?_
        refine g_iload_n C dX5_freeColour_17 18 rfl rfl ?_
        refine g_callVi (ci := 9) (q0 := 0) (As := [.int (nI i), .int (nI a)]) (rest := []) (wr := [(w3, .inl (cI, 24, .inl (fun jj => nI (col jj))))]) (ws' := fun (_ : Unit) => [(w0, .inr (9, [.ref w1, .ref w2, .ref w3, .ref w4, .ref w5, .int (nI wn)])), (w1, .inl (cI, 24, .inl (fun jj => nI (eA jj)))), (w2, .inl (cI, 24, .inl (fun jj => nI (eB jj)))), (w3, .inl (cI, 24, .inl (fun jj => nI (col jj))))]) C (fun sz => c_X5_endsAt _ _ cI cJ cB cZ sz w0 w1 w2 w3 w4 w5 wn eA eB i a (by omega) (hA i (by omega)) (hB i (by omega)) (by omega)) (gx_nst hXP (by decide +kernel)) 2 gX5_freeColour_X5_endsAt rfl rfl rfl (by decide +kernel) ⟨Nat.le_of_ble_eq_true rfl, Nat.le_of_ble_eq_true rfl⟩ rfl rfl [0, 1, 2] [3] [1, 2, 3, 0] rfl (by decide) rfl (by decide) (by decide) (fun _ => rfl) (by decide) rfl rfl (Nat.le_of_ble_eq_true rfl) dX5_freeColour_18 ⟨Nat.le_of_ble_eq_true rfl, Nat.le_of_ble_eq_true rfl⟩ 21 rfl (eqk ?_)
        refine g_if_ne_b C dX5_freeColour_21 34 24 (by decide) rfl (fun c21 => ?_) (fun c21 => ?_)
        · refine g_iload_n C dX5_freeColour_34 35 rfl rfl ?_
          refine g_iconst (v := nI 1) C dX5_freeColour_35 36 rfl (by decide) ?_
          refine g_aload_n C dX5_freeColour_36 37 rfl rfl ?_
          refine g_get C iw_X5_freeColour_X5 0 rfl rfl 2 (by decide) (by decide +kernel) rfl rfl dX5_freeColour_37 40 rfl ?_
          refine g_iload C dX5_freeColour_40 42 rfl rfl ?_
          refine g_iald C 3 0 rfl rfl i rfl (by omega) (by decide) dX5_freeColour_42 43 rfl ?_
          refine g_ishl C dX5_freeColour_43 44 rfl ?_
          refine g_ior C dX5_freeColour_44 45 rfl ?_
          refine g_istore_n C dX5_freeColour_45 46 rfl (by decide) [1, 2, 3, 0, 4] (lv' := [(0, .ref w0), (1, .int (nI a)), (2, .int (nI b)), (3, .int ((tk eA eB col a b i) ||| ((nI 1) <<< (nI (col i) &&& 31)))), (4, .int (nI i))]) rfl ?_
          refine g_iinc (v := nI (i + 1)) C dX5_freeColour_46 49 rfl rfl (nI_add i 1) (by decide) [1, 2, 3, 4, 0] (lv' := [(0, .ref w0), (1, .int (nI a)), (2, .int (nI b)), (3, .int ((tk eA eB col a b i) ||| ((nI 1) <<< (nI (col i) &&& 31)))), (4, .int (nI (i + 1)))]) rfl ?_
          refine g_goto C dX5_freeColour_49 5 (by decide) ?_
          rw [show (tk eA eB col a b i) ||| ((nI 1) <<< (nI (col i) &&& 31)) = tk eA eB col a b (i + 1) from by simp [tk, c21]]
          exact hloop_ih (i + 1) (by omega) (by omega)
        · refine g_aload_n C dX5_freeColour_24 25 rfl rfl ?_
          refine g_iload C dX5_freeColour_25 27 rfl rfl ?_
          refine g_iload_n C dX5_freeColour_27 28 rfl rfl ?_
          refine g_callVi (ci := 9) (q0 := 0) (As := [.int (nI i), .int (nI b)]) (rest := []) (wr := [(w3, .inl (cI, 24, .inl (fun jj => nI (col jj))))]) (ws' := fun (_ : Unit) => [(w0, .inr (9, [.ref w1, .ref w2, .ref w3, .ref w4, .ref w5, .int (nI wn)])), (w1, .inl (cI, 24, .inl (fun jj => nI (eA jj)))), (w2, .inl (cI, 24, .inl (fun jj => nI (eB jj)))), (w3, .inl (cI, 24, .inl (fun jj => nI (col jj))))]) C (fun sz => c_X5_endsAt _ _ cI cJ cB cZ sz w0 w1 w2 w3 w4 w5 wn eA eB i b (by omega) (hA i (by omega)) (hB i (by omega)) (by omega)) (gx_nst hXP (by decide +kernel)) 2 gX5_freeColour_X5_endsAt rfl rfl rfl (by decide +kernel) ⟨Nat.le_of_ble_eq_true rfl, Nat.le_of_ble_eq_true rfl⟩ rfl rfl [0, 1, 2] [3] [1, 2, 3, 0] rfl (by decide) rfl (by decide) (by decide) (fun _ => rfl) (by decide) rfl rfl (Nat.le_of_ble_eq_true rfl) dX5_freeColour_28 ⟨Nat.le_of_ble_eq_true rfl, Nat.le_of_ble_eq_true rfl⟩ 31 rfl (eqk ?_)
          refine g_if_eq_b C dX5_freeColour_31 46 34 (by decide) rfl (fun c31 => ?_) (fun c31 => ?_)
          · refine g_iinc (v := nI (i + 1)) C dX5_freeColour_46 49 rfl rfl (nI_add i 1) (by decide) [1, 2, 3, 4, 0] (lv' := [(0, .ref w0), (1, .int (nI a)), (2, .int (nI b)), (3, .int (tk eA eB col a b i)), (4, .int (nI (i + 1)))]) rfl ?_
            refine g_goto C dX5_freeColour_49 5 (by decide) ?_
            rw [show tk eA eB col a b i = tk eA eB col a b (i + 1) from by simp [tk, c21, c31]]
            exact hloop_ih (i + 1) (by omega) (by omega)
          · refine g_iload_n C dX5_freeColour_34 35 rfl rfl ?_
            refine g_iconst (v := nI 1) C dX5_freeColour_35 36 rfl (by decide) ?_
            refine g_aload_n C dX5_freeColour_36 37 rfl rfl ?_
            refine g_get C iw_X5_freeColour_X5 0 rfl rfl 2 (by decide) (by decide +kernel) rfl rfl dX5_freeColour_37 40 rfl ?_
            refine g_iload C dX5_freeColour_40 42 rfl rfl ?_
            refine g_iald C 3 0 rfl rfl i rfl (by omega) (by decide) dX5_freeColour_42 43 rfl ?_
            refine g_ishl C dX5_freeColour_43 44 rfl ?_
            refine g_ior C dX5_freeColour_44 45 rfl ?_
            refine g_istore_n C dX5_freeColour_45 46 rfl (by decide) [1, 2, 3, 0, 4] (lv' := [(0, .ref w0), (1, .int (nI a)), (2, .int (nI b)), (3, .int ((tk eA eB col a b i) ||| ((nI 1) <<< (nI (col i) &&& 31)))), (4, .int (nI i))]) rfl ?_
            refine g_iinc (v := nI (i + 1)) C dX5_freeColour_46 49 rfl rfl (nI_add i 1) (by decide) [1, 2, 3, 4, 0] (lv' := [(0, .ref w0), (1, .int (nI a)), (2, .int (nI b)), (3, .int ((tk eA eB col a b i) ||| ((nI 1) <<< (nI (col i) &&& 31)))), (4, .int (nI (i + 1)))]) rfl ?_
            refine g_goto C dX5_freeColour_49 5 (by decide) ?_
            rw [show (tk eA eB col a b i) ||| ((nI 1) <<< (nI (col i) &&& 31)) = tk eA eB col a b (i + 1) from by simp [tk, c21, c31]]
            exact hloop_ih (i + 1) (by omega) (by omega)
  exact hloop (wn + 1) 0 (by omega) (by omega)

theorem iw_X5_add_X5 : ∀ w ∈ wsX50, w ∈ wsX5_add := by decide +kernel
set_option maxHeartbeats 4000000 in
set_option maxRecDepth 100000 in
theorem c_X5_add (l : Launch) (D : va_G) (cI cJ cB cZ : ClassId) (sz : Nat) (w0 : Nat) (w1 : Nat) (w2 : Nat) (w3 : Nat) (w4 : Nat) (w5 : Nat) (wn : Nat) (eA : Nat → Nat) (eB : Nat → Nat) (col : Nat → Nat) (lo : Nat → Int64) (dr : Nat → Int64) (x : Nat) (y : Nat) (hw : wn ≤ 24) (hA : ∀ k, k < wn → eA k < 256) (hB : ∀ k, k < wn → eB k < 256) (hx : x < 256) (hy : y < 256) (h0 : wn < 24) (h1 : x ≠ y) (h2 : wfind (atE eA eB x) wn = none) (h3 : wfind (atE eA eB y) wn = none) : Met l yX5_add wsX5_add ({ frames := 3, cells := 0, slots := 0, locals := 66 }) (va_Pc [.ref w0, .int (nI x), .int (nI y)] (pW D (TY cI cJ cB cZ) [(w0, .inr (9, [.ref w1, .ref w2, .ref w3, .ref w4, .ref w5, .int (nI wn)])), (w1, .inl (cI, 24, .inl (fun jj => nI (eA jj)))), (w2, .inl (cI, 24, .inl (fun jj => nI (eB jj)))), (w3, .inl (cI, 24, .inl (fun jj => nI (col jj)))), (w4, .inl (cJ, 24, .inr (.inl lo))), (w5, .inl (cJ, 24, .inr (.inl dr)))] (nst [(RX5, 36, yX6_nodeOf, "HarnessRows"), (RX5, 49, yX6_hasBit, "HarnessRows")]) sz)) (va_Qi (fun (rv : Int32) (_ : Unit) => rv = nI wn) (qW D (TY cI cJ cB cZ) (va_A [(w0, .inr (9, [.ref w1, .ref w2, .ref w3, .ref w4, .ref w5, .int (nI wn)])), (w1, .inl (cI, 24, .inl (fun jj => nI (eA jj)))), (w2, .inl (cI, 24, .inl (fun jj => nI (eB jj)))), (w3, .inl (cI, 24, .inl (fun jj => nI (col jj)))), (w4, .inl (cJ, 24, .inr (.inl lo))), (w5, .inl (cJ, 24, .inr (.inl dr)))] sz) (fun _ => [(w0, .inr (9, [.ref w1, .ref w2, .ref w3, .ref w4, .ref w5, .int (nI (wn + 1))])), (w1, .inl (cI, 24, .inl (fun jj => nI ((updN eA wn x) jj)))), (w2, .inl (cI, 24, .inl (fun jj => nI ((updN eB wn y) jj)))), (w3, .inl (cI, 24, .inl (fun jj => nI ((updN col wn (frc (tk eA eB col (x / 16) (y / 16) wn))) jj)))), (w4, .inl (cJ, 24, .inr (.inl (vp_updL lo wn 0)))), (w5, .inl (cJ, 24, .inr (.inl (vp_updL dr wn 1000000))))])) (va_A [(w0, .inr (9, [.ref w1, .ref w2, .ref w3, .ref w4, .ref w5, .int (nI wn)])), (w1, .inl (cI, 24, .inl (fun jj => nI (eA jj)))), (w2, .inl (cI, 24, .inl (fun jj => nI (eB jj)))), (w3, .inl (cI, 24, .inl (fun jj => nI (col jj)))), (w4, .inl (cJ, 24, .inr (.inl lo))), (w5, .inl (cJ, 24, .inr (.inl dr)))] sz)) 0 0 (va_A [(w0, .inr (9, [.ref w1, .ref w2, .ref w3, .ref w4, .ref w5, .int (nI wn)])), (w1, .inl (cI, 24, .inl (fun jj => nI (eA jj)))), (w2, .inl (cI, 24, .inl (fun jj => nI (eB jj)))), (w3, .inl (cI, 24, .inl (fun jj => nI (col jj)))), (w4, .inl (cJ, 24, .inr (.inl lo))), (w5, .inl (cJ, 24, .inr (.inl dr)))] sz) := by
  refine gx_met RX5 rfl (by decide) rfl (Nat.le_of_ble_eq_true rfl) ?_
  intro X hl hDx hAx C hQ hXP hsz hin
  subst hl; subst hDx
  rw [← hAx] at hQ
  refine g_lv [0, 1, 2] (lv' := [(0, .ref w0), (1, .int (nI x)), (2, .int (nI y))]) rfl ?_
  refine g_aload_n C dX5_add_0 1 rfl rfl ?_
  refine g_get C iw_X5_add_X5 0 rfl rfl 5 (by decide) (by decide +kernel) rfl rfl dX5_add_1 4 rfl ?_
  refine g_bipush (v := nI 24) C dX5_add_4 6 rfl (by decide) ?_
  refine g_icmp_ge_n C dX5_add_6 32 9 (by decide) rfl (by omega) (by omega) (fun c6 => ?_) (fun c6 => ?_)
  · exact absurd c6 (by omega)
  · refine g_iload_n C dX5_add_9 10 rfl rfl ?_
    refine g_iload_n C dX5_add_10 11 rfl rfl ?_
    refine g_icmp_eq_n C dX5_add_11 32 14 (by decide) rfl (by omega) (by omega) (fun c11 => ?_) (fun c11 => ?_)
    · exact absurd c11 h1
    · refine g_aload_n C dX5_add_14 15 rfl rfl ?_
      refine g_iload_n C dX5_add_15 16 rfl rfl ?_
      refine g_callVi (ci := 9) (q0 := 0) (As := [.int (nI x)]) (rest := []) (wr := [(w3, .inl (cI, 24, .inl (fun jj => nI (col jj)))), (w4, .inl (cJ, 24, .inr (.inl lo))), (w5, .inl (cJ, 24, .inr (.inl dr)))]) (ws' := fun (_ : Unit) => [(w0, .inr (9, [.ref w1, .ref w2, .ref w3, .ref w4, .ref w5, .int (nI wn)])), (w1, .inl (cI, 24, .inl (fun jj => nI (eA jj)))), (w2, .inl (cI, 24, .inl (fun jj => nI (eB jj)))), (w3, .inl (cI, 24, .inl (fun jj => nI (col jj)))), (w4, .inl (cJ, 24, .inr (.inl lo))), (w5, .inl (cJ, 24, .inr (.inl dr)))]) C (fun sz => c_X5_wireAt _ _ cI cJ cB cZ sz w0 w1 w2 w3 w4 w5 wn eA eB x (by omega) (by omega) (by omega) (by omega)) gx_XP0 1 gX5_add_X5_wireAt rfl rfl rfl (by decide +kernel) ⟨Nat.le_of_ble_eq_true rfl, Nat.le_of_ble_eq_true rfl⟩ rfl rfl [0, 1, 2] [3, 4, 5] [3, 4, 5, 0, 1, 2] rfl (by decide) rfl (by decide) (by decide) (fun _ => rfl) (by decide) rfl rfl (Nat.le_of_ble_eq_true rfl) dX5_add_16 ⟨Nat.le_of_ble_eq_true rfl, Nat.le_of_ble_eq_true rfl⟩ 19 rfl (eqk ?_)
      refine g_iconst (v := -1) C dX5_add_19 20 rfl (by decide) ?_
      refine g_icmp_ne C dX5_add_20 32 23 (by decide) rfl (fun c20 => ?_) (fun c20 => ?_)
      · exact absurd ((wI_m1 (by omega)).mpr h2) c20
      · refine g_aload_n C dX5_add_23 24 rfl rfl ?_
        refine g_iload_n C dX5_add_24 25 rfl rfl ?_
        refine g_callVi (ci := 9) (q0 := 0) (As := [.int (nI y)]) (rest := []) (wr := [(w3, .inl (cI, 24, .inl (fun jj => nI (col jj)))), (w4, .inl (cJ, 24, .inr (.inl lo))), (w5, .inl (cJ, 24, .inr (.inl dr)))]) (ws' := fun (_ : Unit) => [(w0, .inr (9, [.ref w1, .ref w2, .ref w3, .ref w4, .ref w5, .int (nI wn)])), (w1, .inl (cI, 24, .inl (fun jj => nI (eA jj)))), (w2, .inl (cI, 24, .inl (fun jj => nI (eB jj)))), (w3, .inl (cI, 24, .inl (fun jj => nI (col jj)))), (w4, .inl (cJ, 24, .inr (.inl lo))), (w5, .inl (cJ, 24, .inr (.inl dr)))]) C (fun sz => c_X5_wireAt _ _ cI cJ cB cZ sz w0 w1 w2 w3 w4 w5 wn eA eB y (by omega) (by omega) (by omega) (by omega)) gx_XP0 1 gX5_add_X5_wireAt rfl rfl rfl (by decide +kernel) ⟨Nat.le_of_ble_eq_true rfl, Nat.le_of_ble_eq_true rfl⟩ rfl rfl [0, 1, 2] [3, 4, 5] [3, 4, 5, 0, 1, 2] rfl (by decide) rfl (by decide) (by decide) (fun _ => rfl) (by decide) rfl rfl (Nat.le_of_ble_eq_true rfl) dX5_add_25 ⟨Nat.le_of_ble_eq_true rfl, Nat.le_of_ble_eq_true rfl⟩ 28 rfl (eqk ?_)
        refine g_iconst (v := -1) C dX5_add_28 29 rfl (by decide) ?_
        refine g_icmp_eq C dX5_add_29 34 32 (by decide) rfl (fun c29 => ?_) (fun c29 => ?_)
        · refine g_aload_n C dX5_add_34 35 rfl rfl ?_
          refine g_get C iw_X5_add_X5 0 rfl rfl 2 (by decide) (by decide +kernel) rfl rfl dX5_add_35 38 rfl ?_
          refine g_aload_n C dX5_add_38 39 rfl rfl ?_
          refine g_get C iw_X5_add_X5 0 rfl rfl 5 (by decide) (by decide +kernel) rfl rfl dX5_add_39 42 rfl ?_
          refine g_aload_n C dX5_add_42 43 rfl rfl ?_
          refine g_iload_n C dX5_add_43 44 rfl rfl ?_
          refine g_callSNi (As := [.int (nI x)]) (rest := [.ref w0, .int (nI wn), .ref w3]) (wr := [(w0, .inr (9, [.ref w1, .ref w2, .ref w3, .ref w4, .ref w5, .int (nI wn)])), (w1, .inl (cI, 24, .inl (fun jj => nI (eA jj)))), (w2, .inl (cI, 24, .inl (fun jj => nI (eB jj)))), (w3, .inl (cI, 24, .inl (fun jj => nI (col jj)))), (w4, .inl (cJ, 24, .inr (.inl lo))), (w5, .inl (cJ, 24, .inr (.inl dr)))]) (ws' := fun (_ : Unit) => [(w0, .inr (9, [.ref w1, .ref w2, .ref w3, .ref w4, .ref w5, .int (nI wn)])), (w1, .inl (cI, 24, .inl (fun jj => nI (eA jj)))), (w2, .inl (cI, 24, .inl (fun jj => nI (eB jj)))), (w3, .inl (cI, 24, .inl (fun jj => nI (col jj)))), (w4, .inl (cJ, 24, .inr (.inl lo))), (w5, .inl (cJ, 24, .inr (.inl dr)))]) C (fun sz => c_X6_nodeOf _ _ cI cJ cB cZ sz x (by omega)) gx_XP0 1 ggX5_add_X6_nodeOf (hXP (RX5, 36, yX6_nodeOf, "HarnessRows") (List.mem_of_getElem? (i := 0) rfl)) (by decide +kernel) (by decide +kernel) rfl rfl rfl (by decide +kernel) ⟨Nat.le_of_ble_eq_true rfl, Nat.le_of_ble_eq_true rfl⟩ [] [0, 1, 2, 3, 4, 5] [0, 1, 2, 3, 4, 5] rfl (by decide) rfl (by decide) (by decide) (fun _ => rfl) (by decide) rfl rfl (Nat.le_of_ble_eq_true rfl) dX5_add_44 ⟨Nat.le_of_ble_eq_true rfl, Nat.le_of_ble_eq_true rfl⟩ 47 rfl (eqk ?_)
          refine g_iload_n C dX5_add_47 48 rfl rfl ?_
          refine g_callSNi (As := [.int (nI y)]) (rest := [.int (nI (x / 16)), .ref w0, .int (nI wn), .ref w3]) (wr := [(w0, .inr (9, [.ref w1, .ref w2, .ref w3, .ref w4, .ref w5, .int (nI wn)])), (w1, .inl (cI, 24, .inl (fun jj => nI (eA jj)))), (w2, .inl (cI, 24, .inl (fun jj => nI (eB jj)))), (w3, .inl (cI, 24, .inl (fun jj => nI (col jj)))), (w4, .inl (cJ, 24, .inr (.inl lo))), (w5, .inl (cJ, 24, .inr (.inl dr)))]) (ws' := fun (_ : Unit) => [(w0, .inr (9, [.ref w1, .ref w2, .ref w3, .ref w4, .ref w5, .int (nI wn)])), (w1, .inl (cI, 24, .inl (fun jj => nI (eA jj)))), (w2, .inl (cI, 24, .inl (fun jj => nI (eB jj)))), (w3, .inl (cI, 24, .inl (fun jj => nI (col jj)))), (w4, .inl (cJ, 24, .inr (.inl lo))), (w5, .inl (cJ, 24, .inr (.inl dr)))]) C (fun sz => c_X6_nodeOf _ _ cI cJ cB cZ sz y (by omega)) gx_XP0 1 ggX5_add_X6_nodeOf (hXP (RX5, 36, yX6_nodeOf, "HarnessRows") (List.mem_of_getElem? (i := 0) rfl)) (by decide +kernel) (by decide +kernel) rfl rfl rfl (by decide +kernel) ⟨Nat.le_of_ble_eq_true rfl, Nat.le_of_ble_eq_true rfl⟩ [] [0, 1, 2, 3, 4, 5] [0, 1, 2, 3, 4, 5] rfl (by decide) rfl (by decide) (by decide) (fun _ => rfl) (by decide) rfl rfl (Nat.le_of_ble_eq_true rfl) dX5_add_48 ⟨Nat.le_of_ble_eq_true rfl, Nat.le_of_ble_eq_true rfl⟩ 51 rfl (eqk ?_)
          refine g_callVi (ci := 9) (q0 := 0) (As := [.int (nI (x / 16)), .int (nI (y / 16))]) (rest := [.int (nI wn), .ref w3]) (wr := [(w4, .inl (cJ, 24, .inr (.inl lo))), (w5, .inl (cJ, 24, .inr (.inl dr)))]) (ws' := fun (_ : Unit) => [(w0, .inr (9, [.ref w1, .ref w2, .ref w3, .ref w4, .ref w5, .int (nI wn)])), (w1, .inl (cI, 24, .inl (fun jj => nI (eA jj)))), (w2, .inl (cI, 24, .inl (fun jj => nI (eB jj)))), (w3, .inl (cI, 24, .inl (fun jj => nI (col jj)))), (w4, .inl (cJ, 24, .inr (.inl lo))), (w5, .inl (cJ, 24, .inr (.inl dr)))]) C (fun sz => c_X5_freeColour _ _ cI cJ cB cZ sz w0 w1 w2 w3 w4 w5 wn eA eB col (x / 16) (y / 16) (by omega) (by omega) (by omega) (by omega) (by omega)) (gx_nst hXP (by decide +kernel)) 2 gX5_add_X5_freeColour rfl rfl rfl (by decide +kernel) ⟨Nat.le_of_ble_eq_true rfl, Nat.le_of_ble_eq_true rfl⟩ rfl rfl [0, 1, 2, 3] [4, 5] [2, 3, 4, 5, 0, 1] rfl (by decide) rfl (by decide) (by decide) (fun _ => rfl) (by decide) rfl rfl (Nat.le_of_ble_eq_true rfl) dX5_add_51 ⟨Nat.le_of_ble_eq_true rfl, Nat.le_of_ble_eq_true rfl⟩ 54 rfl (eqk ?_)
          refine g_iast C 3 0 rfl rfl wn rfl (by omega) (by decide) dX5_add_54 55 rfl (ws' := [(w0, .inr (9, [.ref w1, .ref w2, .ref w3, .ref w4, .ref w5, .int (nI wn)])), (w1, .inl (cI, 24, .inl (fun jj => nI (eA jj)))), (w2, .inl (cI, 24, .inl (fun jj => nI (eB jj)))), (w3, .inl (cI, 24, .inl (fun jj => nI ((updN col wn (frc (tk eA eB col (x / 16) (y / 16) wn))) jj)))), (w4, .inl (cJ, 24, .inr (.inl lo))), (w5, .inl (cJ, 24, .inr (.inl dr)))]) (by rw [upd_nI]; rfl) ?_
          refine g_aload_n C dX5_add_55 56 rfl rfl ?_
          refine g_get C iw_X5_add_X5 0 rfl rfl 0 (by decide) (by decide +kernel) rfl rfl dX5_add_56 59 rfl ?_
          refine g_aload_n C dX5_add_59 60 rfl rfl ?_
          refine g_get C iw_X5_add_X5 0 rfl rfl 5 (by decide) (by decide +kernel) rfl rfl dX5_add_60 63 rfl ?_
          refine g_iload_n C dX5_add_63 64 rfl rfl ?_
          refine g_iast C 1 0 rfl rfl wn rfl (by omega) (by decide) dX5_add_64 65 rfl (ws' := [(w0, .inr (9, [.ref w1, .ref w2, .ref w3, .ref w4, .ref w5, .int (nI wn)])), (w1, .inl (cI, 24, .inl (fun jj => nI ((updN eA wn x) jj)))), (w2, .inl (cI, 24, .inl (fun jj => nI (eB jj)))), (w3, .inl (cI, 24, .inl (fun jj => nI ((updN col wn (frc (tk eA eB col (x / 16) (y / 16) wn))) jj)))), (w4, .inl (cJ, 24, .inr (.inl lo))), (w5, .inl (cJ, 24, .inr (.inl dr)))]) (by rw [upd_nI]; rfl) ?_
          refine g_aload_n C dX5_add_65 66 rfl rfl ?_
          refine g_get C iw_X5_add_X5 0 rfl rfl 1 (by decide) (by decide +kernel) rfl rfl dX5_add_66 69 rfl ?_
          refine g_aload_n C dX5_add_69 70 rfl rfl ?_
          refine g_get C iw_X5_add_X5 0 rfl rfl 5 (by decide) (by decide +kernel) rfl rfl dX5_add_70 73 rfl ?_
          refine g_iload_n C dX5_add_73 74 rfl rfl ?_
          refine g_iast C 2 0 rfl rfl wn rfl (by omega) (by decide) dX5_add_74 75 rfl (ws' := [(w0, .inr (9, [.ref w1, .ref w2, .ref w3, .ref w4, .ref w5, .int (nI wn)])), (w1, .inl (cI, 24, .inl (fun jj => nI ((updN eA wn x) jj)))), (w2, .inl (cI, 24, .inl (fun jj => nI ((updN eB wn y) jj)))), (w3, .inl (cI, 24, .inl (fun jj => nI ((updN col wn (frc (tk eA eB col (x / 16) (y / 16) wn))) jj)))), (w4, .inl (cJ, 24, .inr (.inl lo))), (w5, .inl (cJ, 24, .inr (.inl dr)))]) (by rw [upd_nI]; rfl) ?_
          refine g_aload_n C dX5_add_75 76 rfl rfl ?_
          refine g_get C iw_X5_add_X5 0 rfl rfl 3 (by decide) (by decide +kernel) rfl rfl dX5_add_76 79 rfl ?_
          refine g_aload_n C dX5_add_79 80 rfl rfl ?_
          refine g_get C iw_X5_add_X5 0 rfl rfl 5 (by decide) (by decide +kernel) rfl rfl dX5_add_80 83 rfl ?_
          refine g_lconst (v := 0) C dX5_add_83 84 rfl (by decide) ?_
          refine g_last C 4 1 rfl rfl wn rfl (by omega) (by decide) dX5_add_84 85 rfl (ws' := [(w0, .inr (9, [.ref w1, .ref w2, .ref w3, .ref w4, .ref w5, .int (nI wn)])), (w1, .inl (cI, 24, .inl (fun jj => nI ((updN eA wn x) jj)))), (w2, .inl (cI, 24, .inl (fun jj => nI ((updN eB wn y) jj)))), (w3, .inl (cI, 24, .inl (fun jj => nI ((updN col wn (frc (tk eA eB col (x / 16) (y / 16) wn))) jj)))), (w4, .inl (cJ, 24, .inr (.inl (vp_updL lo wn 0)))), (w5, .inl (cJ, 24, .inr (.inl dr)))]) rfl ?_
          refine g_aload_n C dX5_add_85 86 rfl rfl ?_
          refine g_get C iw_X5_add_X5 0 rfl rfl 4 (by decide) (by decide +kernel) rfl rfl dX5_add_86 89 rfl ?_
          refine g_aload_n C dX5_add_89 90 rfl rfl ?_
          refine g_get C iw_X5_add_X5 0 rfl rfl 5 (by decide) (by decide +kernel) rfl rfl dX5_add_90 93 rfl ?_
          refine g_ldc2 C (1000000) (by decide +kernel) dX5_add_93 96 rfl ?_
          refine g_last C 5 1 rfl rfl wn rfl (by omega) (by decide) dX5_add_96 97 rfl (ws' := [(w0, .inr (9, [.ref w1, .ref w2, .ref w3, .ref w4, .ref w5, .int (nI wn)])), (w1, .inl (cI, 24, .inl (fun jj => nI ((updN eA wn x) jj)))), (w2, .inl (cI, 24, .inl (fun jj => nI ((updN eB wn y) jj)))), (w3, .inl (cI, 24, .inl (fun jj => nI ((updN col wn (frc (tk eA eB col (x / 16) (y / 16) wn))) jj)))), (w4, .inl (cJ, 24, .inr (.inl (vp_updL lo wn 0)))), (w5, .inl (cJ, 24, .inr (.inl (vp_updL dr wn (1000000)))))]) rfl ?_
          refine g_aload_n C dX5_add_97 98 rfl rfl ?_
          refine g_dup C dX5_add_98 99 rfl rfl ?_
          refine g_get C iw_X5_add_X5 0 rfl rfl 5 (by decide) (by decide +kernel) rfl rfl dX5_add_99 102 rfl ?_
          refine g_iconst (v := nI 1) C dX5_add_102 103 rfl (by decide) ?_
          refine g_iaddn C dX5_add_103 104 rfl ?_
          refine g_put C (ty := .int) iw_X5_add_X5 tyX5 tyX5_ok nmX5 0 rfl rfl 5 (by decide) (by decide +kernel) rfl rfl (by decide +kernel) rfl rfl (Nat.le_of_ble_eq_true rfl) dX5_add_104 107 rfl (ws' := [(w0, .inr (9, [.ref w1, .ref w2, .ref w3, .ref w4, .ref w5, .int (nI (wn + 1))])), (w1, .inl (cI, 24, .inl (fun jj => nI ((updN eA wn x) jj)))), (w2, .inl (cI, 24, .inl (fun jj => nI ((updN eB wn y) jj)))), (w3, .inl (cI, 24, .inl (fun jj => nI ((updN col wn (frc (tk eA eB col (x / 16) (y / 16) wn))) jj)))), (w4, .inl (cJ, 24, .inr (.inl (vp_updL lo wn 0)))), (w5, .inl (cJ, 24, .inr (.inl (vp_updL dr wn (1000000)))))]) rfl ?_
          refine g_aload_n C dX5_add_107 108 rfl rfl ?_
          refine g_get C iw_X5_add_X5 0 rfl rfl 5 (by decide) (by decide +kernel) rfl rfl dX5_add_108 111 rfl ?_
          refine g_iconst (v := nI 1) C dX5_add_111 112 rfl (by decide) ?_
          refine g_isubn C dX5_add_112 113 rfl (by omega) ?_
          exact g_iret C hQ (Nat.le_of_ble_eq_true rfl) (Nat.le_of_ble_eq_true rfl) dX5_add_113 () (by rw [show wn + 1 - 1 = wn by omega]) rfl
        · exact absurd ((wI_m1 (by omega)).mpr h3) c29

set_option maxHeartbeats 4000000 in
set_option maxRecDepth 100000 in
theorem c_X5_add_no (l : Launch) (D : va_G) (cI cJ cB cZ : ClassId) (sz : Nat) (w0 : Nat) (w1 : Nat) (w2 : Nat) (w3 : Nat) (w4 : Nat) (w5 : Nat) (wn : Nat) (eA : Nat → Nat) (eB : Nat → Nat) (col : Nat → Nat) (lo : Nat → Int64) (dr : Nat → Int64) (x : Nat) (y : Nat) (hw : wn ≤ 24) (hA : ∀ k, k < wn → eA k < 256) (hB : ∀ k, k < wn → eB k < 256) (hx : x < 256) (hy : y < 256) (hno : 24 ≤ wn ∨ x = y ∨ ¬ wfind (atE eA eB x) wn = none ∨ ¬ wfind (atE eA eB y) wn = none) : Met l yX5_add wsX5_add ({ frames := 1, cells := 0, slots := 0, locals := 22 }) (va_Pc [.ref w0, .int (nI x), .int (nI y)] (pW D (TY cI cJ cB cZ) [(w0, .inr (9, [.ref w1, .ref w2, .ref w3, .ref w4, .ref w5, .int (nI wn)])), (w1, .inl (cI, 24, .inl (fun jj => nI (eA jj)))), (w2, .inl (cI, 24, .inl (fun jj => nI (eB jj)))), (w3, .inl (cI, 24, .inl (fun jj => nI (col jj)))), (w4, .inl (cJ, 24, .inr (.inl lo))), (w5, .inl (cJ, 24, .inr (.inl dr)))] (nst [(RX5, 36, yX6_nodeOf, "HarnessRows"), (RX5, 49, yX6_hasBit, "HarnessRows")]) sz)) (va_Qi (fun (rv : Int32) (_ : Unit) => rv = (-1)) (qW D (TY cI cJ cB cZ) (va_A [(w0, .inr (9, [.ref w1, .ref w2, .ref w3, .ref w4, .ref w5, .int (nI wn)])), (w1, .inl (cI, 24, .inl (fun jj => nI (eA jj)))), (w2, .inl (cI, 24, .inl (fun jj => nI (eB jj)))), (w3, .inl (cI, 24, .inl (fun jj => nI (col jj)))), (w4, .inl (cJ, 24, .inr (.inl lo))), (w5, .inl (cJ, 24, .inr (.inl dr)))] sz) (fun _ => [(w0, .inr (9, [.ref w1, .ref w2, .ref w3, .ref w4, .ref w5, .int (nI wn)])), (w1, .inl (cI, 24, .inl (fun jj => nI (eA jj)))), (w2, .inl (cI, 24, .inl (fun jj => nI (eB jj)))), (w3, .inl (cI, 24, .inl (fun jj => nI (col jj)))), (w4, .inl (cJ, 24, .inr (.inl lo))), (w5, .inl (cJ, 24, .inr (.inl dr)))])) (va_A [(w0, .inr (9, [.ref w1, .ref w2, .ref w3, .ref w4, .ref w5, .int (nI wn)])), (w1, .inl (cI, 24, .inl (fun jj => nI (eA jj)))), (w2, .inl (cI, 24, .inl (fun jj => nI (eB jj)))), (w3, .inl (cI, 24, .inl (fun jj => nI (col jj)))), (w4, .inl (cJ, 24, .inr (.inl lo))), (w5, .inl (cJ, 24, .inr (.inl dr)))] sz)) 0 0 (va_A [(w0, .inr (9, [.ref w1, .ref w2, .ref w3, .ref w4, .ref w5, .int (nI wn)])), (w1, .inl (cI, 24, .inl (fun jj => nI (eA jj)))), (w2, .inl (cI, 24, .inl (fun jj => nI (eB jj)))), (w3, .inl (cI, 24, .inl (fun jj => nI (col jj)))), (w4, .inl (cJ, 24, .inr (.inl lo))), (w5, .inl (cJ, 24, .inr (.inl dr)))] sz) := by
  refine gx_met RX5 rfl (by decide) rfl (Nat.le_of_ble_eq_true rfl) ?_
  intro X hl hDx hAx C hQ hXP hsz hin
  subst hl; subst hDx
  rw [← hAx] at hQ
  refine g_lv [0, 1, 2] (lv' := [(0, .ref w0), (1, .int (nI x)), (2, .int (nI y))]) rfl ?_
  refine g_aload_n C dX5_add_0 1 rfl rfl ?_
  refine g_get C iw_X5_add_X5 0 rfl rfl 5 (by decide) (by decide +kernel) rfl rfl dX5_add_1 4 rfl ?_
  refine g_bipush (v := nI 24) C dX5_add_4 6 rfl (by decide) ?_
  refine g_icmp_ge_n C dX5_add_6 32 9 (by decide) rfl (by omega) (by omega) (fun c6 => ?_) (fun c6 => ?_)
  · refine g_iconst (v := -1) C dX5_add_32 33 rfl (by decide) ?_
    exact g_iret C hQ (Nat.le_of_ble_eq_true rfl) (Nat.le_of_ble_eq_true rfl) dX5_add_33 () rfl rfl
  · refine g_iload_n C dX5_add_9 10 rfl rfl ?_
    refine g_iload_n C dX5_add_10 11 rfl rfl ?_
    refine g_icmp_eq_n C dX5_add_11 32 14 (by decide) rfl (by omega) (by omega) (fun c11 => ?_) (fun c11 => ?_)
    · refine g_iconst (v := -1) C dX5_add_32 33 rfl (by decide) ?_
      exact g_iret C hQ (Nat.le_of_ble_eq_true rfl) (Nat.le_of_ble_eq_true rfl) dX5_add_33 () rfl rfl
    · refine g_aload_n C dX5_add_14 15 rfl rfl ?_
      refine g_iload_n C dX5_add_15 16 rfl rfl ?_
      refine g_callVi (ci := 9) (q0 := 0) (As := [.int (nI x)]) (rest := []) (wr := [(w3, .inl (cI, 24, .inl (fun jj => nI (col jj)))), (w4, .inl (cJ, 24, .inr (.inl lo))), (w5, .inl (cJ, 24, .inr (.inl dr)))]) (ws' := fun (_ : Unit) => [(w0, .inr (9, [.ref w1, .ref w2, .ref w3, .ref w4, .ref w5, .int (nI wn)])), (w1, .inl (cI, 24, .inl (fun jj => nI (eA jj)))), (w2, .inl (cI, 24, .inl (fun jj => nI (eB jj)))), (w3, .inl (cI, 24, .inl (fun jj => nI (col jj)))), (w4, .inl (cJ, 24, .inr (.inl lo))), (w5, .inl (cJ, 24, .inr (.inl dr)))]) C (fun sz => c_X5_wireAt _ _ cI cJ cB cZ sz w0 w1 w2 w3 w4 w5 wn eA eB x (by omega) (by omega) (by omega) (by omega)) gx_XP0 1 gX5_add_X5_wireAt rfl rfl rfl (by decide +kernel) ⟨Nat.le_of_ble_eq_true rfl, Nat.le_of_ble_eq_true rfl⟩ rfl rfl [0, 1, 2] [3, 4, 5] [3, 4, 5, 0, 1, 2] rfl (by decide) rfl (by decide) (by decide) (fun _ => rfl) (by decide) rfl rfl (Nat.le_of_ble_eq_true rfl) dX5_add_16 ⟨Nat.le_of_ble_eq_true rfl, Nat.le_of_ble_eq_true rfl⟩ 19 rfl (eqk ?_)
      refine g_iconst (v := -1) C dX5_add_19 20 rfl (by decide) ?_
      refine g_icmp_ne C dX5_add_20 32 23 (by decide) rfl (fun c20 => ?_) (fun c20 => ?_)
      · refine g_iconst (v := -1) C dX5_add_32 33 rfl (by decide) ?_
        exact g_iret C hQ (Nat.le_of_ble_eq_true rfl) (Nat.le_of_ble_eq_true rfl) dX5_add_33 () rfl rfl
      · refine g_aload_n C dX5_add_23 24 rfl rfl ?_
        refine g_iload_n C dX5_add_24 25 rfl rfl ?_
        refine g_callVi (ci := 9) (q0 := 0) (As := [.int (nI y)]) (rest := []) (wr := [(w3, .inl (cI, 24, .inl (fun jj => nI (col jj)))), (w4, .inl (cJ, 24, .inr (.inl lo))), (w5, .inl (cJ, 24, .inr (.inl dr)))]) (ws' := fun (_ : Unit) => [(w0, .inr (9, [.ref w1, .ref w2, .ref w3, .ref w4, .ref w5, .int (nI wn)])), (w1, .inl (cI, 24, .inl (fun jj => nI (eA jj)))), (w2, .inl (cI, 24, .inl (fun jj => nI (eB jj)))), (w3, .inl (cI, 24, .inl (fun jj => nI (col jj)))), (w4, .inl (cJ, 24, .inr (.inl lo))), (w5, .inl (cJ, 24, .inr (.inl dr)))]) C (fun sz => c_X5_wireAt _ _ cI cJ cB cZ sz w0 w1 w2 w3 w4 w5 wn eA eB y (by omega) (by omega) (by omega) (by omega)) gx_XP0 1 gX5_add_X5_wireAt rfl rfl rfl (by decide +kernel) ⟨Nat.le_of_ble_eq_true rfl, Nat.le_of_ble_eq_true rfl⟩ rfl rfl [0, 1, 2] [3, 4, 5] [3, 4, 5, 0, 1, 2] rfl (by decide) rfl (by decide) (by decide) (fun _ => rfl) (by decide) rfl rfl (Nat.le_of_ble_eq_true rfl) dX5_add_25 ⟨Nat.le_of_ble_eq_true rfl, Nat.le_of_ble_eq_true rfl⟩ 28 rfl (eqk ?_)
        refine g_iconst (v := -1) C dX5_add_28 29 rfl (by decide) ?_
        refine g_icmp_eq C dX5_add_29 34 32 (by decide) rfl (fun c29 => ?_) (fun c29 => ?_)
        · exact absurd hno (by rw [wI_m1 (by omega)] at c20 c29; rintro (h | h | h | h); omega; exact c11 h; exact h c20; exact h c29)
        · refine g_iconst (v := -1) C dX5_add_32 33 rfl (by decide) ?_
          exact g_iret C hQ (Nat.le_of_ble_eq_true rfl) (Nat.le_of_ble_eq_true rfl) dX5_add_33 () rfl rfl

theorem iw_X5_init_X5 : ∀ w ∈ wsX50, w ∈ wsX5_init := by decide +kernel
set_option maxHeartbeats 4000000 in
set_option maxRecDepth 100000 in
theorem c_X5_init (l : Launch) (D : va_G) (cI cJ cB cZ : ClassId) (sz : Nat) (w0 : Nat)  : Met l yX5_init wsX5_init ({ frames := 1, cells := 5, slots := 120, locals := 12 }) (va_Pc [.ref w0] (pW D (TY cI cJ cB cZ) [(w0, .inr (9, [.null, .null, .null, .null, .null, .int 0]))] (fun _ => True) sz)) (va_Qv (fun (u : Nat × Nat × Nat × Nat × Nat) => True) (qW D (TY cI cJ cB cZ) (va_A [(w0, .inr (9, [.null, .null, .null, .null, .null, .int 0]))] sz) (fun u => [(w0, .inr (9, [.ref u.1, .ref u.2.1, .ref u.2.2.1, .ref u.2.2.2.1, .ref u.2.2.2.2, .int (nI 0)])), (u.1, .inl (cI, 24, .inl (fun jj => nI ((fun _ => 0) jj)))), (u.2.1, .inl (cI, 24, .inl (fun jj => nI ((fun _ => 0) jj)))), (u.2.2.1, .inl (cI, 24, .inl (fun jj => nI ((fun _ => 0) jj)))), (u.2.2.2.1, .inl (cJ, 24, .inr (.inl (fun _ => 0)))), (u.2.2.2.2, .inl (cJ, 24, .inr (.inl (fun _ => 0))))])) (va_A [(w0, .inr (9, [.null, .null, .null, .null, .null, .int 0]))] sz)) 5 120 (va_A [(w0, .inr (9, [.null, .null, .null, .null, .null, .int 0]))] sz) := by
  refine gx_met RX5 rfl (by decide) rfl (Nat.le_of_ble_eq_true rfl) ?_
  intro X hl hDx hAx C hQ hXP hsz hin
  subst hl; subst hDx
  rw [← hAx] at hQ
  refine g_lv [0] (lv' := [(0, .ref w0)]) rfl ?_
  refine g_aload_n C dX5_init_0 1 rfl rfl ?_
  refine g_objInit C (by decide +kernel) (by decide +kernel) (by first | exact List.mem_of_getElem? (i := 3) rfl | exact List.mem_of_getElem? (i := 2) rfl | exact List.mem_of_getElem? (i := 4) rfl | exact List.mem_of_getElem? (i := 5) rfl) dX5_init_1 4 rfl (Nat.le_of_ble_eq_true rfl) (Nat.le_of_ble_eq_true rfl) ?_
  refine g_aload_n C dX5_init_4 5 rfl rfl ?_
  refine g_bipush (v := nI 24) C dX5_init_5 7 rfl (by decide) ?_
  refine g_newa_int C 0 rfl (by decide) (by decide +kernel) dX5_init_7 9 rfl (Nat.le_of_ble_eq_true rfl) (Nat.le_of_ble_eq_true rfl) (fun q7 => ?_)
  refine g_ws (ws' := [(w0, .inr (9, [.null, .null, .null, .null, .null, .int 0])), (q7, .inl (cI, 24, .inl (fun _ => 0)))]) rfl ?_
  refine g_putF C (hI := hin rfl) (ty := .array .int) iw_X5_init_X5 tyX5 tyX5_ok nmX5 0 rfl rfl 0 (by decide) (by decide +kernel) rfl rfl rfl (by decide +kernel) rfl rfl (Nat.le_of_ble_eq_true rfl) dX5_init_9 12 rfl (ws' := [(w0, .inr (9, [.ref q7, .null, .null, .null, .null, .int 0])), (q7, .inl (cI, 24, .inl (fun _ => 0)))]) rfl ?_
  refine g_aload_n C dX5_init_12 13 rfl rfl ?_
  refine g_bipush (v := nI 24) C dX5_init_13 15 rfl (by decide) ?_
  refine g_newa_int C 0 rfl (by decide) (by decide +kernel) dX5_init_15 17 rfl (Nat.le_of_ble_eq_true rfl) (Nat.le_of_ble_eq_true rfl) (fun q15 => ?_)
  refine g_ws (ws' := [(w0, .inr (9, [.ref q7, .null, .null, .null, .null, .int 0])), (q7, .inl (cI, 24, .inl (fun _ => 0))), (q15, .inl (cI, 24, .inl (fun _ => 0)))]) rfl ?_
  refine g_putF C (hI := hin rfl) (ty := .array .int) iw_X5_init_X5 tyX5 tyX5_ok nmX5 0 rfl rfl 1 (by decide) (by decide +kernel) rfl rfl rfl (by decide +kernel) rfl rfl (Nat.le_of_ble_eq_true rfl) dX5_init_17 20 rfl (ws' := [(w0, .inr (9, [.ref q7, .ref q15, .null, .null, .null, .int 0])), (q7, .inl (cI, 24, .inl (fun _ => 0))), (q15, .inl (cI, 24, .inl (fun _ => 0)))]) rfl ?_
  refine g_aload_n C dX5_init_20 21 rfl rfl ?_
  refine g_bipush (v := nI 24) C dX5_init_21 23 rfl (by decide) ?_
  refine g_newa_int C 0 rfl (by decide) (by decide +kernel) dX5_init_23 25 rfl (Nat.le_of_ble_eq_true rfl) (Nat.le_of_ble_eq_true rfl) (fun q23 => ?_)
  refine g_ws (ws' := [(w0, .inr (9, [.ref q7, .ref q15, .null, .null, .null, .int 0])), (q7, .inl (cI, 24, .inl (fun _ => 0))), (q15, .inl (cI, 24, .inl (fun _ => 0))), (q23, .inl (cI, 24, .inl (fun _ => 0)))]) rfl ?_
  refine g_putF C (hI := hin rfl) (ty := .array .int) iw_X5_init_X5 tyX5 tyX5_ok nmX5 0 rfl rfl 2 (by decide) (by decide +kernel) rfl rfl rfl (by decide +kernel) rfl rfl (Nat.le_of_ble_eq_true rfl) dX5_init_25 28 rfl (ws' := [(w0, .inr (9, [.ref q7, .ref q15, .ref q23, .null, .null, .int 0])), (q7, .inl (cI, 24, .inl (fun _ => 0))), (q15, .inl (cI, 24, .inl (fun _ => 0))), (q23, .inl (cI, 24, .inl (fun _ => 0)))]) rfl ?_
  refine g_aload_n C dX5_init_28 29 rfl rfl ?_
  refine g_bipush (v := nI 24) C dX5_init_29 31 rfl (by decide) ?_
  refine g_newa_long C 1 rfl (by decide) (by decide +kernel) dX5_init_31 33 rfl (Nat.le_of_ble_eq_true rfl) (Nat.le_of_ble_eq_true rfl) (fun q31 => ?_)
  refine g_ws (ws' := [(w0, .inr (9, [.ref q7, .ref q15, .ref q23, .null, .null, .int 0])), (q7, .inl (cI, 24, .inl (fun _ => 0))), (q15, .inl (cI, 24, .inl (fun _ => 0))), (q23, .inl (cI, 24, .inl (fun _ => 0))), (q31, .inl (cJ, 24, .inr (.inl (fun _ => 0))))]) rfl ?_
  refine g_putF C (hI := hin rfl) (ty := .array .long) iw_X5_init_X5 tyX5 tyX5_ok nmX5 0 rfl rfl 3 (by decide) (by decide +kernel) rfl rfl rfl (by decide +kernel) rfl rfl (Nat.le_of_ble_eq_true rfl) dX5_init_33 36 rfl (ws' := [(w0, .inr (9, [.ref q7, .ref q15, .ref q23, .ref q31, .null, .int 0])), (q7, .inl (cI, 24, .inl (fun _ => 0))), (q15, .inl (cI, 24, .inl (fun _ => 0))), (q23, .inl (cI, 24, .inl (fun _ => 0))), (q31, .inl (cJ, 24, .inr (.inl (fun _ => 0))))]) rfl ?_
  refine g_aload_n C dX5_init_36 37 rfl rfl ?_
  refine g_bipush (v := nI 24) C dX5_init_37 39 rfl (by decide) ?_
  refine g_newa_long C 1 rfl (by decide) (by decide +kernel) dX5_init_39 41 rfl (Nat.le_of_ble_eq_true rfl) (Nat.le_of_ble_eq_true rfl) (fun q39 => ?_)
  refine g_ws (ws' := [(w0, .inr (9, [.ref q7, .ref q15, .ref q23, .ref q31, .null, .int 0])), (q7, .inl (cI, 24, .inl (fun _ => 0))), (q15, .inl (cI, 24, .inl (fun _ => 0))), (q23, .inl (cI, 24, .inl (fun _ => 0))), (q31, .inl (cJ, 24, .inr (.inl (fun _ => 0)))), (q39, .inl (cJ, 24, .inr (.inl (fun _ => 0))))]) rfl ?_
  refine g_putF C (hI := hin rfl) (ty := .array .long) iw_X5_init_X5 tyX5 tyX5_ok nmX5 0 rfl rfl 4 (by decide) (by decide +kernel) rfl rfl rfl (by decide +kernel) rfl rfl (Nat.le_of_ble_eq_true rfl) dX5_init_41 44 rfl (ws' := [(w0, .inr (9, [.ref q7, .ref q15, .ref q23, .ref q31, .ref q39, .int 0])), (q7, .inl (cI, 24, .inl (fun _ => 0))), (q15, .inl (cI, 24, .inl (fun _ => 0))), (q23, .inl (cI, 24, .inl (fun _ => 0))), (q31, .inl (cJ, 24, .inr (.inl (fun _ => 0)))), (q39, .inl (cJ, 24, .inr (.inl (fun _ => 0))))]) rfl ?_
  refine g_aload_n C dX5_init_44 45 rfl rfl ?_
  refine g_iconst (v := nI 0) C dX5_init_45 46 rfl (by decide) ?_
  refine g_put C (ty := .int) iw_X5_init_X5 tyX5 tyX5_ok nmX5 0 rfl rfl 5 (by decide) (by decide +kernel) rfl rfl (by decide +kernel) rfl rfl (Nat.le_of_ble_eq_true rfl) dX5_init_46 49 rfl (ws' := [(w0, .inr (9, [.ref q7, .ref q15, .ref q23, .ref q31, .ref q39, .int (nI 0)])), (q7, .inl (cI, 24, .inl (fun _ => 0))), (q15, .inl (cI, 24, .inl (fun _ => 0))), (q23, .inl (cI, 24, .inl (fun _ => 0))), (q31, .inl (cJ, 24, .inr (.inl (fun _ => 0)))), (q39, .inl (cJ, 24, .inr (.inl (fun _ => 0))))]) rfl ?_
  exact g_vret C hQ (Nat.le_of_ble_eq_true rfl) (Nat.le_of_ble_eq_true rfl) dX5_init_49 (q7, q15, q23, q31, q39) trivial (by first | (dsimp only; done) | rfl)
