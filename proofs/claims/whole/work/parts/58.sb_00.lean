theorem iw_J5_init_d00df_J4 : ∀ w ∈ wsJ40, w ∈ wsJ5_init_d00df := by decide +kernel
set_option maxHeartbeats 4000000 in
set_option maxRecDepth 100000 in
theorem c_J5_init_d00df (l : Launch) (D : va_G) (cI cJ cB cZ : ClassId) (sz : Nat) (b0 : Nat)  : Met l yJ5_init_d00df wsJ5_init_d00df ({ frames := 1, cells := 1, slots := 16, locals := 12 }) (va_Pc [.ref b0, .int (nI 16)] (pW D (TY cI cJ cB cZ) [(b0, .inr (1, [.null, .int 0, .int 0, .int 0]))] (pS [(b0, .inr (1, [.null, .int 0, .int 0, .int 0]))] sz) sz)) (va_Qv (fun (u : Nat) => True) (qW D (TY cI cJ cB cZ) (va_A [(b0, .inr (1, [.null, .int 0, .int 0, .int 0]))] sz) (fun u => [(b0, .inr (1, [.ref u, .int (nI 0), .int 0, .int 0])), (u, .inl (cB, 16, .inl (fun _ => 0)))])) (va_A [(b0, .inr (1, [.null, .int 0, .int 0, .int 0]))] sz)) 1 16 (va_A [(b0, .inr (1, [.null, .int 0, .int 0, .int 0]))] sz) := by
  refine gx_met RJ5 rfl (by decide) rfl (Nat.le_of_ble_eq_true rfl) ?_
  intro X hl hDx hAx C hQ hXP hsz hin
  subst hl; subst hDx
  unfold pS at hXP
  rw [← hAx] at hQ hXP
  have hX0 : stt (gx_A X) (gx_s X) (gx_s X).heap := hXP
  obtain ⟨hCS, hSF, ⟨tO, hO, hOt⟩, ⟨tT, hTn, hTt⟩⟩ := hX0
  have hX0 : stt (gx_A X) (gx_s X) (gx_s X).heap := hXP
  refine g_lv [0, 1] (lv' := [(0, .ref b0), (1, .int (nI 16))]) rfl ?_
  refine g_aload_n C dJ5_init_d00df_0 1 rfl rfl ?_
  refine g_objInit C (by decide +kernel) (by decide +kernel) (by first | exact List.mem_of_getElem? (i := 3) rfl | exact List.mem_of_getElem? (i := 2) rfl | exact List.mem_of_getElem? (i := 4) rfl | exact List.mem_of_getElem? (i := 5) rfl) dJ5_init_d00df_1 4 rfl (Nat.le_of_ble_eq_true rfl) (Nat.le_of_ble_eq_true rfl) ?_
  refine g_gets C hCS (by decide +kernel) dJ5_init_d00df_4 7 rfl ?_
  refine g_if_eq C dJ5_init_d00df_7 25 10 (by decide) rfl (fun c7 => ?_) (fun c7 => ?_)
  · exact absurd c7 (by decide)
  · refine g_aload_n C dJ5_init_d00df_10 11 rfl rfl ?_
    refine g_iload_n C dJ5_init_d00df_11 12 rfl rfl ?_
    refine g_newa_byte C 2 rfl (by decide) (by decide +kernel) dJ5_init_d00df_12 14 rfl (Nat.le_of_ble_eq_true rfl) (Nat.le_of_ble_eq_true rfl) (fun q12 => ?_)
    refine g_ws (ws' := [(b0, .inr (1, [.null, .int 0, .int 0, .int 0])), (q12, .inl (cB, 16, .inl (fun _ => 0)))]) rfl ?_
    refine g_put C (ty := .array .byte) iw_J5_init_d00df_J4 tyJ4 tyJ4_ok nmJ4 0 rfl rfl 0 (by decide) (by decide +kernel) rfl rfl (by decide +kernel) rfl rfl (Nat.le_of_ble_eq_true rfl) dJ5_init_d00df_14 17 rfl (ws' := [(b0, .inr (1, [.ref q12, .int 0, .int 0, .int 0])), (q12, .inl (cB, 16, .inl (fun _ => 0)))]) rfl ?_
    refine g_aload_n C dJ5_init_d00df_17 18 rfl rfl ?_
    refine g_iconst (v := nI 0) C dJ5_init_d00df_18 19 rfl (by decide) ?_
    refine g_put C (ty := .byte) iw_J5_init_d00df_J4 tyJ4 tyJ4_ok nmJ4 0 rfl rfl 1 (by decide) (by decide +kernel) rfl rfl (by decide +kernel) rfl rfl (Nat.le_of_ble_eq_true rfl) dJ5_init_d00df_19 22 rfl (ws' := [(b0, .inr (1, [.ref q12, .int (nI 0), .int 0, .int 0])), (q12, .inl (cB, 16, .inl (fun _ => 0)))]) rfl ?_
    refine g_goto C dJ5_init_d00df_22 38 (by decide) ?_
    exact g_vret C hQ (Nat.le_of_ble_eq_true rfl) (Nat.le_of_ble_eq_true rfl) dJ5_init_d00df_38 (q12) trivial (by first | (dsimp only; done) | rfl)

set_option maxHeartbeats 4000000 in
set_option maxRecDepth 100000 in
theorem c_J4_init_da8c8 (l : Launch) (D : va_G) (cI cJ cB cZ : ClassId) (sz : Nat) (b0 : Nat)  : Met l yJ4_init_da8c8 wsJ4_init_da8c8 ({ frames := 2, cells := 1, slots := 16, locals := 33 }) (va_Pc [.ref b0] (pW D (TY cI cJ cB cZ) [(b0, .inr (1, [.null, .int 0, .int 0, .int 0]))] (pS [(b0, .inr (1, [.null, .int 0, .int 0, .int 0]))] sz) sz)) (va_Qv (fun (u : Nat) => True) (qW D (TY cI cJ cB cZ) (va_A [(b0, .inr (1, [.null, .int 0, .int 0, .int 0]))] sz) (fun u => [(b0, .inr (1, [.ref u, .int (nI 0), .int 0, .int 0])), (u, .inl (cB, 16, .inl (fun _ => 0)))])) (va_A [(b0, .inr (1, [.null, .int 0, .int 0, .int 0]))] sz)) 1 16 (va_A [(b0, .inr (1, [.null, .int 0, .int 0, .int 0]))] sz) := by
  refine gx_met RJ4 rfl (by decide) rfl (Nat.le_of_ble_eq_true rfl) ?_
  intro X hl hDx hAx C hQ hXP hsz hin
  subst hl; subst hDx
  unfold pS at hXP
  rw [← hAx] at hQ hXP
  have hX0 : stt (gx_A X) (gx_s X) (gx_s X).heap := hXP
  obtain ⟨hCS, hSF, ⟨tO, hO, hOt⟩, ⟨tT, hTn, hTt⟩⟩ := hX0
  have hX0 : stt (gx_A X) (gx_s X) (gx_s X).heap := hXP
  refine g_lv [0] (lv' := [(0, .ref b0)]) rfl ?_
  refine g_aload_n C dJ4_init_da8c8_0 1 rfl rfl ?_
  refine g_bipush (v := nI 16) C dJ4_init_da8c8_1 3 rfl (by decide) ?_
  refine g_callIvs (As := [.int (nI 16)]) (rest := []) (wr := []) (ws' := fun (u : Nat) => [(b0, .inr (1, [.ref u, .int (nI 0), .int 0, .int 0])), (u, .inl (cB, 16, .inl (fun _ => 0)))]) C (fun sz => c_J5_init_d00df _ _ cI cJ cB cZ sz b0 ) (gx_stt hX0) 1 gJ4_init_da8c8_J5_init_d00df (by decide +kernel) (by decide +kernel) (by decide +kernel) rfl rfl rfl rfl (by decide +kernel) ⟨Nat.le_of_ble_eq_true rfl, Nat.le_of_ble_eq_true rfl⟩ [0] [] [0, 1] rfl (by decide) rfl (by decide) (by decide) (fun _ => rfl) (by decide) rfl rfl (Nat.le_of_ble_eq_true rfl) dJ4_init_da8c8_3 ⟨Nat.le_of_ble_eq_true rfl, Nat.le_of_ble_eq_true rfl⟩ 6 rfl (fun u hr3 => ?_)
  obtain ⟨b1_1, rfl⟩ : ∃ z, z = u := ⟨_, rfl⟩
  try dsimp only at hr3
  exact g_vret C hQ (Nat.le_of_ble_eq_true rfl) (Nat.le_of_ble_eq_true rfl) dJ4_init_da8c8_6 (b1_1) trivial (by first | (dsimp only; done) | rfl)

theorem iw_J5_isLatin1_aae02_J4 : ∀ w ∈ wsJ40, w ∈ wsJ5_isLatin1_aae02 := by decide +kernel
set_option maxHeartbeats 4000000 in
set_option maxRecDepth 100000 in
theorem c_J5_isLatin1_aae02 (l : Launch) (D : va_G) (cI cJ cB cZ : ClassId) (sz : Nat) (b0 : Nat) (b1 : Nat) (ml : Int32) (nn : Int32)  : Met l yJ5_isLatin1_aae02 wsJ5_isLatin1_aae02 ({ frames := 0, cells := 0, slots := 0, locals := 0 }) (va_Pc [.ref b0] (pW D (TY cI cJ cB cZ) [(b0, .inr (1, [.ref b1, .int (nI 0), .int ml, .int nn]))] (pS [(b0, .inr (1, [.ref b1, .int (nI 0), .int ml, .int nn]))] sz) sz)) (va_Qi (fun (rv : Int32) (_ : Unit) => rv = nI 1) (qW D (TY cI cJ cB cZ) (va_A [(b0, .inr (1, [.ref b1, .int (nI 0), .int ml, .int nn]))] sz) (fun _ => [(b0, .inr (1, [.ref b1, .int (nI 0), .int ml, .int nn]))])) (va_A [(b0, .inr (1, [.ref b1, .int (nI 0), .int ml, .int nn]))] sz)) 0 0 (va_A [(b0, .inr (1, [.ref b1, .int (nI 0), .int ml, .int nn]))] sz) := by
  refine gx_met RJ5 rfl (by decide) rfl (Nat.le_of_ble_eq_true rfl) ?_
  intro X hl hDx hAx C hQ hXP hsz hin
  subst hl; subst hDx
  unfold pS at hXP
  rw [← hAx] at hQ hXP
  have hX0 : stt (gx_A X) (gx_s X) (gx_s X).heap := hXP
  obtain ⟨hCS, hSF, ⟨tO, hO, hOt⟩, ⟨tT, hTn, hTt⟩⟩ := hX0
  have hX0 : stt (gx_A X) (gx_s X) (gx_s X).heap := hXP
  refine g_lv [0] (lv' := [(0, .ref b0)]) rfl ?_
  refine g_gets C hCS (by decide +kernel) dJ5_isLatin1_aae02_0 3 rfl ?_
  refine g_if_eq C dJ5_isLatin1_aae02_3 17 6 (by decide) rfl (fun c3 => ?_) (fun c3 => ?_)
  · exact absurd c3 (by decide)
  · refine g_aload_n C dJ5_isLatin1_aae02_6 7 rfl rfl ?_
    refine g_get C iw_J5_isLatin1_aae02_J4 0 rfl rfl 1 (by decide) (by decide +kernel) rfl rfl dJ5_isLatin1_aae02_7 10 rfl ?_
    refine g_if_ne_n C dJ5_isLatin1_aae02_10 17 13 (by decide) rfl (by omega) (fun c10 => ?_) (fun c10 => ?_)
    · exact absurd c10 (by omega)
    · refine g_iconst (v := nI 1) C dJ5_isLatin1_aae02_13 14 rfl (by decide) ?_
      refine g_goto C dJ5_isLatin1_aae02_14 18 (by decide) ?_
      exact g_zret C hQ (Nat.le_of_ble_eq_true rfl) (Nat.le_of_ble_eq_true rfl) dJ5_isLatin1_aae02_18 rfl () rfl rfl

theorem iw_J5_ensureCapacityInternal_d00df_J4 : ∀ w ∈ wsJ40, w ∈ wsJ5_ensureCapacityInternal_d00df := by decide +kernel
set_option maxHeartbeats 4000000 in
set_option maxRecDepth 100000 in
theorem c_J5_ensureCapacityInternal_d00df (l : Launch) (D : va_G) (cI cJ cB cZ : ClassId) (sz : Nat) (b0 : Nat) (b1 : Nat) (ml : Int32) (nn : Int32) (f : Nat → Int32) (q : Nat) (hq : q ≤ 16) : Met l yJ5_ensureCapacityInternal_d00df wsJ5_ensureCapacityInternal_d00df ({ frames := 0, cells := 0, slots := 0, locals := 0 }) (va_Pc [.ref b0, .int (nI q)] (pW D (TY cI cJ cB cZ) [(b0, .inr (1, [.ref b1, .int (nI 0), .int ml, .int nn])), (b1, .inl (cB, 16, .inl f))] (fun _ => True) sz)) (va_Qv (fun (_ : Unit) => True) (qW D (TY cI cJ cB cZ) (va_A [(b0, .inr (1, [.ref b1, .int (nI 0), .int ml, .int nn])), (b1, .inl (cB, 16, .inl f))] sz) (fun _ => [(b0, .inr (1, [.ref b1, .int (nI 0), .int ml, .int nn])), (b1, .inl (cB, 16, .inl f))])) (va_A [(b0, .inr (1, [.ref b1, .int (nI 0), .int ml, .int nn])), (b1, .inl (cB, 16, .inl f))] sz)) 0 0 (va_A [(b0, .inr (1, [.ref b1, .int (nI 0), .int ml, .int nn])), (b1, .inl (cB, 16, .inl f))] sz) := by
  refine gx_met RJ5 rfl (by decide) rfl (Nat.le_of_ble_eq_true rfl) ?_
  intro X hl hDx hAx C hQ hXP hsz hin
  subst hl; subst hDx
  rw [← hAx] at hQ
  refine g_lv [0, 1] (lv' := [(0, .ref b0), (1, .int (nI q))]) rfl ?_
  refine g_aload_n C dJ5_ensureCapacityInternal_d00df_0 1 rfl rfl ?_
  refine g_get C iw_J5_ensureCapacityInternal_d00df_J4 0 rfl rfl 0 (by decide) (by decide +kernel) rfl rfl dJ5_ensureCapacityInternal_d00df_1 4 rfl ?_
  refine g_alen C 1 2 rfl rfl (n := 16) rfl dJ5_ensureCapacityInternal_d00df_4 5 rfl ?_
  refine g_aload_n C dJ5_ensureCapacityInternal_d00df_5 6 rfl rfl ?_
  refine g_get C iw_J5_ensureCapacityInternal_d00df_J4 0 rfl rfl 1 (by decide) (by decide +kernel) rfl rfl dJ5_ensureCapacityInternal_d00df_6 9 rfl ?_
  refine g_ishr C dJ5_ensureCapacityInternal_d00df_9 10 rfl ?_
  refine g_topi (nI 16) (by decide) ?_
  refine g_istore_n C dJ5_ensureCapacityInternal_d00df_10 11 rfl (by decide) [1, 2, 0] (lv' := [(0, .ref b0), (1, .int (nI q)), (2, .int (nI 16))]) rfl ?_
  refine g_iload_n C dJ5_ensureCapacityInternal_d00df_11 12 rfl rfl ?_
  refine g_iload_n C dJ5_ensureCapacityInternal_d00df_12 13 rfl rfl ?_
  refine g_isub C dJ5_ensureCapacityInternal_d00df_13 14 rfl ?_
  refine g_if_le C dJ5_ensureCapacityInternal_d00df_14 38 17 (by decide) rfl (fun c14 => ?_) (fun c14 => ?_)
  · exact g_vret C hQ (Nat.le_of_ble_eq_true rfl) (Nat.le_of_ble_eq_true rfl) dJ5_ensureCapacityInternal_d00df_38 () trivial rfl
  · exact absurd (sub_le0 hq) c14
