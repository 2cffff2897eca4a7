theorem iw_J5_append_c97b9_J4 : ∀ w ∈ wsJ40, w ∈ wsJ5_append_c97b9 := by decide +kernel
set_option maxHeartbeats 4000000 in
set_option maxRecDepth 100000 in
theorem c_J5_append_c97b9 (l : Launch) (D : va_G) (cI cJ cB cZ : ClassId) (sz : Nat) (b0 : Nat) (b1 : Nat) (ml : Int32) (n : Nat) (v : Nat) (f : Nat → Int32) (hv : v < 1000000) (hn : n + (dgl v).length ≤ 16) : Met l yJ5_append_c97b9 wsJ5_append_c97b9 ({ frames := 1, cells := 0, slots := 0, locals := 26 }) (va_Pc [.ref b0, .int (nI v)] (pW D (TY cI cJ cB cZ) [(b0, .inr (1, [.ref b1, .int (nI 0), .int ml, .int (nI n)])), (b1, .inl (cB, 16, .inl f))] (pS [(b0, .inr (1, [.ref b1, .int (nI 0), .int ml, .int (nI n)])), (b1, .inl (cB, 16, .inl f))] sz) sz)) (va_Qr (fun (_ : Unit) => True) (qR D (TY cI cJ cB cZ) (va_A [(b0, .inr (1, [.ref b1, .int (nI 0), .int ml, .int (nI n)])), (b1, .inl (cB, 16, .inl f))] sz) (fun _ => [(b0, .inr (1, [.ref b1, .int (nI 0), .int ml, .int (nI (n + (dgl v).length))])), (b1, .inl (cB, 16, .inl (wrt f n (dgl v))))]) b0) (va_A [(b0, .inr (1, [.ref b1, .int (nI 0), .int ml, .int (nI n)])), (b1, .inl (cB, 16, .inl f))] sz)) 0 0 (va_A [(b0, .inr (1, [.ref b1, .int (nI 0), .int ml, .int (nI n)])), (b1, .inl (cB, 16, .inl f))] sz) := by
  refine gx_met RJ5 rfl (by decide) rfl (Nat.le_of_ble_eq_true rfl) ?_
  intro X hl hDx hAx C hQ hXP hsz hin
  subst hl; subst hDx
  unfold pS at hXP
  rw [← hAx] at hQ hXP
  have hX0 : stt (gx_A X) (gx_s X) (gx_s X).heap := hXP
  obtain ⟨hCS, hSF, ⟨tO, hO, hOt⟩, ⟨tT, hTn, hTt⟩⟩ := hX0
  have hX0 : stt (gx_A X) (gx_s X) (gx_s X).heap := hXP
  refine g_lv [0, 1] (lv' := [(0, .ref b0), (1, .int (nI v))]) rfl ?_
  refine g_aload_n C dJ5_append_c97b9_0 1 rfl rfl ?_
  refine g_get C iw_J5_append_c97b9_J4 0 rfl rfl 3 (by decide) (by decide +kernel) rfl rfl dJ5_append_c97b9_1 4 rfl ?_
  refine g_istore_n C dJ5_append_c97b9_4 5 rfl (by decide) [1, 2, 0] (lv' := [(0, .ref b0), (1, .int (nI v)), (2, .int (nI n))]) rfl ?_
  refine g_iload_n C dJ5_append_c97b9_5 6 rfl rfl ?_
  refine g_iload_n C dJ5_append_c97b9_6 7 rfl rfl ?_
  refine g_callSi (As := [.int (nI v)]) (rest := [.int (nI n)]) (wr := [(b0, .inr (1, [.ref b1, .int (nI 0), .int ml, .int (nI n)])), (b1, .inl (cB, 16, .inl f))]) (ws' := fun (_ : Unit) => [(b0, .inr (1, [.ref b1, .int (nI 0), .int ml, .int (nI n)])), (b1, .inl (cB, 16, .inl f))]) C (fun sz => c_J6_stringSize_0f7a4 _ _ cI cJ cB cZ sz v (by omega)) gx_XP0 1 gJ5_append_c97b9_J6_stringSize_0f7a4 rfl rfl rfl (by decide +kernel) ⟨Nat.le_of_ble_eq_true rfl, Nat.le_of_ble_eq_true rfl⟩ [] [0, 1] [0, 1] rfl (by decide) rfl (by decide) (by decide) (fun _ => rfl) (by decide) rfl rfl (Nat.le_of_ble_eq_true rfl) dJ5_append_c97b9_7 ⟨Nat.le_of_ble_eq_true rfl, Nat.le_of_ble_eq_true rfl⟩ 10 rfl (eqk ?_)
  refine g_iaddn C dJ5_append_c97b9_10 11 rfl ?_
  refine g_istore_n C dJ5_append_c97b9_11 12 rfl (by decide) [1, 2, 3, 0] (lv' := [(0, .ref b0), (1, .int (nI v)), (2, .int (nI n)), (3, .int (nI (n + ((dgl v).length))))]) rfl ?_
  have hd9 := dgl_pos v
  refine g_aload_n C dJ5_append_c97b9_12 13 rfl rfl ?_
  refine g_iload_n C dJ5_append_c97b9_13 14 rfl rfl ?_
  refine g_callUvs (ci := 1) (q0 := 0) (As := [.int (nI (n + ((dgl v).length)))]) (rest := []) (wr := []) (ws' := fun (_ : Unit) => [(b0, .inr (1, [.ref b1, .int (nI 0), .int ml, .int (nI n)])), (b1, .inl (cB, 16, .inl f))]) C (fun sz => c_J5_ensureCapacityInternal_d00df _ _ cI cJ cB cZ sz b0 b1 ml (nI n) f (n + ((dgl v).length)) (by omega)) gx_XPs0 1 gJ5_append_c97b9_J5_ensureCapacityInternal_d00df_u100J4 rfl rfl rfl rfl (by decide +kernel) ⟨Nat.le_of_ble_eq_true rfl, Nat.le_of_ble_eq_true rfl⟩ rfl rfl [0, 1] [] [0, 1] rfl (by decide) rfl (by decide) (by decide) (fun _ => rfl) (by decide) rfl rfl (Nat.le_of_ble_eq_true rfl) dJ5_append_c97b9_14 ⟨Nat.le_of_ble_eq_true rfl, Nat.le_of_ble_eq_true rfl⟩ 17 rfl (fun _ _ => ?_)
  refine g_aload_n C dJ5_append_c97b9_17 18 rfl rfl ?_
  refine g_callUis (ci := 1) (q0 := 0) (As := []) (rest := []) (wr := [(b1, .inl (cB, 16, .inl f))]) (ws' := fun (_ : Unit) => [(b0, .inr (1, [.ref b1, .int (nI 0), .int ml, .int (nI n)])), (b1, .inl (cB, 16, .inl f))]) C (fun sz => c_J5_isLatin1_aae02 _ _ cI cJ cB cZ sz b0 b1 ml (nI n) ) (gx_stt hX0) 0 gJ5_append_c97b9_J5_isLatin1_aae02_u83J4 rfl rfl rfl rfl (by decide +kernel) ⟨Nat.le_of_ble_eq_true rfl, Nat.le_of_ble_eq_true rfl⟩ rfl rfl [0] [1] [1, 0] rfl (by decide) rfl (by decide) (by decide) (fun _ => rfl) (by decide) rfl rfl (Nat.le_of_ble_eq_true rfl) dJ5_append_c97b9_18 ⟨Nat.le_of_ble_eq_true rfl, Nat.le_of_ble_eq_true rfl⟩ 21 rfl (eqk ?_)
  refine g_if_eq_n C dJ5_append_c97b9_21 37 24 (by decide) rfl (by omega) (fun c21 => ?_) (fun c21 => ?_)
  · exact absurd c21 (by omega)
  · refine g_iload_n C dJ5_append_c97b9_24 25 rfl rfl ?_
    refine g_iload_n C dJ5_append_c97b9_25 26 rfl rfl ?_
    refine g_aload_n C dJ5_append_c97b9_26 27 rfl rfl ?_
    refine g_get C iw_J5_append_c97b9_J4 0 rfl rfl 0 (by decide) (by decide +kernel) rfl rfl dJ5_append_c97b9_27 30 rfl ?_
    refine g_callSis (As := [.int (nI v), .int (nI (n + ((dgl v).length))), .ref b1]) (rest := []) (wr := [(b0, .inr (1, [.ref b1, .int (nI 0), .int ml, .int (nI n)]))]) (ws' := fun (_ : Unit) => [(b0, .inr (1, [.ref b1, .int (nI 0), .int ml, .int (nI n)])), (b1, .inl (cB, 16, .inl (wrt f ((n + ((dgl v).length)) - (dgl v).length) (dgl v))))]) C (fun sz => c_J6_getChars_ba4f3 _ _ cI cJ cB cZ sz b1 v (n + ((dgl v).length)) f (by omega) (by omega) (by omega)) (gx_stt hX0) 3 gJ5_append_c97b9_J6_getChars_ba4f3 rfl rfl rfl (by decide +kernel) ⟨Nat.le_of_ble_eq_true rfl, Nat.le_of_ble_eq_true rfl⟩ [1] [0] [0, 1] rfl (by decide) rfl (by decide) (by decide) (fun _ => rfl) (by decide) rfl rfl (Nat.le_of_ble_eq_true rfl) dJ5_append_c97b9_30 ⟨Nat.le_of_ble_eq_true rfl, Nat.le_of_ble_eq_true rfl⟩ 33 rfl (eqk ?_)
    refine g_pop C dJ5_append_c97b9_33 34 rfl rfl ?_
    refine g_goto C dJ5_append_c97b9_34 48 (by decide) ?_
    refine g_aload_n C dJ5_append_c97b9_48 49 rfl rfl ?_
    refine g_iload_n C dJ5_append_c97b9_49 50 rfl rfl ?_
    refine g_put C (ty := .int) iw_J5_append_c97b9_J4 tyJ4 tyJ4_ok nmJ4 0 rfl rfl 3 (by decide) (by decide +kernel) rfl rfl (by decide +kernel) rfl rfl (Nat.le_of_ble_eq_true rfl) dJ5_append_c97b9_50 53 rfl (ws' := [(b0, .inr (1, [.ref b1, .int (nI 0), .int ml, .int (nI (n + ((dgl v).length)))])), (b1, .inl (cB, 16, .inl (wrt f ((n + ((dgl v).length)) - (dgl v).length) (dgl v))))]) rfl ?_
    refine g_aload_n C dJ5_append_c97b9_53 54 rfl rfl ?_
    exact g_aret C hQ (Nat.le_of_ble_eq_true rfl) (Nat.le_of_ble_eq_true rfl) dJ5_append_c97b9_54 () trivial (by rw [Nat.add_sub_cancel])

set_option maxHeartbeats 4000000 in
set_option maxRecDepth 100000 in
theorem c_J4_append_bf812 (l : Launch) (D : va_G) (cI cJ cB cZ : ClassId) (sz : Nat) (b0 : Nat) (b1 : Nat) (ml : Int32) (n : Nat) (v : Nat) (f : Nat → Int32) (hv : v < 1000000) (hn : n + (dgl v).length ≤ 16) : Met l yJ4_append_bf812 wsJ4_append_bf812 ({ frames := 2, cells := 0, slots := 0, locals := 49 }) (va_Pc [.ref b0, .int (nI v)] (pW D (TY cI cJ cB cZ) [(b0, .inr (1, [.ref b1, .int (nI 0), .int ml, .int (nI n)])), (b1, .inl (cB, 16, .inl f))] (pS [(b0, .inr (1, [.ref b1, .int (nI 0), .int ml, .int (nI n)])), (b1, .inl (cB, 16, .inl f))] sz) sz)) (va_Qr (fun (_ : Unit) => True) (qR D (TY cI cJ cB cZ) (va_A [(b0, .inr (1, [.ref b1, .int (nI 0), .int ml, .int (nI n)])), (b1, .inl (cB, 16, .inl f))] sz) (fun _ => [(b0, .inr (1, [.ref b1, .int (nI 0), .int ml, .int (nI (n + (dgl v).length))])), (b1, .inl (cB, 16, .inl (wrt f n (dgl v))))]) b0) (va_A [(b0, .inr (1, [.ref b1, .int (nI 0), .int ml, .int (nI n)])), (b1, .inl (cB, 16, .inl f))] sz)) 0 0 (va_A [(b0, .inr (1, [.ref b1, .int (nI 0), .int ml, .int (nI n)])), (b1, .inl (cB, 16, .inl f))] sz) := by
  refine gx_met RJ4 rfl (by decide) rfl (Nat.le_of_ble_eq_true rfl) ?_
  intro X hl hDx hAx C hQ hXP hsz hin
  subst hl; subst hDx
  unfold pS at hXP
  rw [← hAx] at hQ hXP
  have hX0 : stt (gx_A X) (gx_s X) (gx_s X).heap := hXP
  obtain ⟨hCS, hSF, ⟨tO, hO, hOt⟩, ⟨tT, hTn, hTt⟩⟩ := hX0
  have hX0 : stt (gx_A X) (gx_s X) (gx_s X).heap := hXP
  refine g_lv [0, 1] (lv' := [(0, .ref b0), (1, .int (nI v))]) rfl ?_
  refine g_aload_n C dJ4_append_bf812_0 1 rfl rfl ?_
  refine g_iload_n C dJ4_append_bf812_1 2 rfl rfl ?_
  refine g_callSUas (ci := 1) (q0 := 0) (As := [.int (nI v)]) (rest := []) (wr := []) (ws' := fun (_ : Unit) => [(b0, .inr (1, [.ref b1, .int (nI 0), .int ml, .int (nI (n + (dgl v).length))])), (b1, .inl (cB, 16, .inl (wrt f n (dgl v))))]) C (fun sz => c_J5_append_c97b9 _ _ cI cJ cB cZ sz b0 b1 ml n v f (by omega) (by omega)) (gx_stt hX0) 1 gJ4_append_bf812_J5_append_c97b9_s53 rfl rfl rfl (by decide +kernel) ⟨Nat.le_of_ble_eq_true rfl, Nat.le_of_ble_eq_true rfl⟩ rfl rfl [0, 1] [] [0, 1] rfl (by decide) rfl (by decide) (by decide) (fun _ => rfl) (by decide) rfl rfl (Nat.le_of_ble_eq_true rfl) dJ4_append_bf812_2 ⟨Nat.le_of_ble_eq_true rfl, Nat.le_of_ble_eq_true rfl⟩ 5 rfl (fun _ _ => ?_)
  refine g_pop C dJ4_append_bf812_5 6 rfl rfl ?_
  refine g_aload_n C dJ4_append_bf812_6 7 rfl rfl ?_
  exact g_aret C hQ (Nat.le_of_ble_eq_true rfl) (Nat.le_of_ble_eq_true rfl) dJ4_append_bf812_7 () trivial rfl

set_option maxHeartbeats 4000000 in
set_option maxRecDepth 100000 in
theorem c_J3_checkIndex_r (l : Launch) (D : va_G) (cI cJ cB cZ : ClassId) (sz : Nat) (i : Nat) (n : Nat) (tF : Nat) (hi : i < n) (hn : n ≤ 16) : Met l yJ3_checkIndex_8e157 wsJ3_checkIndex_8e157 ({ frames := 0, cells := 0, slots := 0, locals := 0 }) (va_Pc [.int (nI i), .int (nI n), .ref tF] (pW D (TY cI cJ cB cZ) [] (fun _ => True) sz)) (va_Qi (fun (rv : Int32) (_ : Unit) => rv = nI i) (qW D (TY cI cJ cB cZ) (va_A [] sz) (fun _ => [])) (va_A [] sz)) 0 0 (va_A [] sz) := by
  refine gx_met RJ3 rfl (by decide) rfl (Nat.le_of_ble_eq_true rfl) ?_
  intro X hl hDx hAx C hQ hXP hsz hin
  subst hl; subst hDx
  rw [← hAx] at hQ
  refine g_lv [0, 1, 2] (lv' := [(0, .int (nI i)), (1, .int (nI n)), (2, .ref tF)]) rfl ?_
  refine g_iload_n C dJ3_checkIndex_8e157_0 1 rfl rfl ?_
  refine g_if_lt_n C dJ3_checkIndex_8e157_1 9 4 (by decide) rfl (by omega) ?_
  refine g_iload_n C dJ3_checkIndex_8e157_4 5 rfl rfl ?_
  refine g_iload_n C dJ3_checkIndex_8e157_5 6 rfl rfl ?_
  refine g_icmp_lt_n C dJ3_checkIndex_8e157_6 16 9 (by decide) rfl (by omega) (by omega) (fun c6 => ?_) (fun c6 => ?_)
  · refine g_iload_n C dJ3_checkIndex_8e157_16 17 rfl rfl ?_
    exact g_iret C hQ (Nat.le_of_ble_eq_true rfl) (Nat.le_of_ble_eq_true rfl) dJ3_checkIndex_8e157_17 () rfl rfl
  · exact absurd c6 (by omega)

set_option maxHeartbeats 4000000 in
set_option maxRecDepth 100000 in
theorem c_J3_checkIndex_n (l : Launch) (D : va_G) (cI cJ cB cZ : ClassId) (sz : Nat) (i : Nat) (n : Nat) (hi : i < n) (hn : n ≤ 16) : Met l yJ3_checkIndex_8e157 wsJ3_checkIndex_8e157 ({ frames := 0, cells := 0, slots := 0, locals := 0 }) (va_Pc [.int (nI i), .int (nI n), .null] (pW D (TY cI cJ cB cZ) [] (fun _ => True) sz)) (va_Qi (fun (rv : Int32) (_ : Unit) => rv = nI i) (qW D (TY cI cJ cB cZ) (va_A [] sz) (fun _ => [])) (va_A [] sz)) 0 0 (va_A [] sz) := by
  refine gx_met RJ3 rfl (by decide) rfl (Nat.le_of_ble_eq_true rfl) ?_
  intro X hl hDx hAx C hQ hXP hsz hin
  subst hl; subst hDx
  rw [← hAx] at hQ
  refine g_lv [0, 1, 2] (lv' := [(0, .int (nI i)), (1, .int (nI n)), (2, .null)]) rfl ?_
  refine g_iload_n C dJ3_checkIndex_8e157_0 1 rfl rfl ?_
  refine g_if_lt_n C dJ3_checkIndex_8e157_1 9 4 (by decide) rfl (by omega) ?_
  refine g_iload_n C dJ3_checkIndex_8e157_4 5 rfl rfl ?_
  refine g_iload_n C dJ3_checkIndex_8e157_5 6 rfl rfl ?_
  refine g_icmp_lt_n C dJ3_checkIndex_8e157_6 16 9 (by decide) rfl (by omega) (by omega) (fun c6 => ?_) (fun c6 => ?_)
  · refine g_iload_n C dJ3_checkIndex_8e157_16 17 rfl rfl ?_
    exact g_iret C hQ (Nat.le_of_ble_eq_true rfl) (Nat.le_of_ble_eq_true rfl) dJ3_checkIndex_8e157_17 () rfl rfl
  · exact absurd c6 (by omega)

set_option maxHeartbeats 4000000 in
set_option maxRecDepth 100000 in
theorem c_J0_checkIndex_df160 (l : Launch) (D : va_G) (cI cJ cB cZ : ClassId) (sz : Nat) (i : Nat) (n : Nat) (hi : i < n) (hn : n ≤ 16) : Met l yJ0_checkIndex_df160 wsJ0_checkIndex_df160 ({ frames := 1, cells := 0, slots := 0, locals := 22 }) (va_Pc [.int (nI i), .int (nI n)] (pW D (TY cI cJ cB cZ) [] (pS [] sz) sz)) (va_Qv (fun (_ : Unit) => True) (qW D (TY cI cJ cB cZ) (va_A [] sz) (fun _ => [])) (va_A [] sz)) 0 0 (va_A [] sz) := by
  refine gx_met RJ0 rfl (by decide) rfl (Nat.le_of_ble_eq_true rfl) ?_
  intro X hl hDx hAx C hQ hXP hsz hin
  subst hl; subst hDx
  unfold pS at hXP
  rw [← hAx] at hQ hXP
  have hX0 : stt (gx_A X) (gx_s X) (gx_s X).heap := hXP
  obtain ⟨hCS, hSF, ⟨tO, hO, hOt⟩, ⟨tT, hTn, hTt⟩⟩ := hX0
  have hX0 : stt (gx_A X) (gx_s X) (gx_s X).heap := hXP
  refine g_lv [0, 1] (lv' := [(0, .int (nI i)), (1, .int (nI n))]) rfl ?_
  refine g_iload_n C dJ0_checkIndex_df160_0 1 rfl rfl ?_
  refine g_iload_n C dJ0_checkIndex_df160_1 2 rfl rfl ?_
  rcases hSF with hSF9 | ⟨tF, hSF9⟩
  · refine g_gets C hSF9 (by decide +kernel) dJ0_checkIndex_df160_2 5 rfl ?_
    refine g_callSi (As := [.int (nI i), .int (nI n), .null]) (rest := []) (wr := []) (ws' := fun (_ : Unit) => []) C (fun sz => c_J3_checkIndex_n _ _ cI cJ cB cZ sz i n (by omega) (by omega)) gx_XP0 3 gJ0_checkIndex_df160_J3_checkIndex_8e157 rfl rfl rfl (by decide +kernel) ⟨Nat.le_of_ble_eq_true rfl, Nat.le_of_ble_eq_true rfl⟩ [] [] [] rfl (by decide) rfl (by decide) (by decide) (fun _ => rfl) (by decide) rfl rfl (Nat.le_of_ble_eq_true rfl) dJ0_checkIndex_df160_5 ⟨Nat.le_of_ble_eq_true rfl, Nat.le_of_ble_eq_true rfl⟩ 8 rfl (eqk ?_)
    refine g_pop C dJ0_checkIndex_df160_8 9 rfl rfl ?_
    exact g_vret C hQ (Nat.le_of_ble_eq_true rfl) (Nat.le_of_ble_eq_true rfl) dJ0_checkIndex_df160_9 () trivial rfl
  · refine g_gets C hSF9 (by decide +kernel) dJ0_checkIndex_df160_2 5 rfl ?_
    refine g_callSi (As := [.int (nI i), .int (nI n), .ref tF]) (rest := []) (wr := []) (ws' := fun (_ : Unit) => []) C (fun sz => c_J3_checkIndex_r _ _ cI cJ cB cZ sz i n tF (by omega) (by omega)) gx_XP0 3 gJ0_checkIndex_df160_J3_checkIndex_8e157 rfl rfl rfl (by decide +kernel) ⟨Nat.le_of_ble_eq_true rfl, Nat.le_of_ble_eq_true rfl⟩ [] [] [] rfl (by decide) rfl (by decide) (by decide) (fun _ => rfl) (by decide) rfl rfl (Nat.le_of_ble_eq_true rfl) dJ0_checkIndex_df160_5 ⟨Nat.le_of_ble_eq_true rfl, Nat.le_of_ble_eq_true rfl⟩ 8 rfl (eqk ?_)
    refine g_pop C dJ0_checkIndex_df160_8 9 rfl rfl ?_
    exact g_vret C hQ (Nat.le_of_ble_eq_true rfl) (Nat.le_of_ble_eq_true rfl) dJ0_checkIndex_df160_9 () trivial rfl

theorem iw_J5_charAt_5068e_J4 : ∀ w ∈ wsJ40, w ∈ wsJ5_charAt_5068e := by decide +kernel
set_option maxHeartbeats 4000000 in
set_option maxRecDepth 100000 in
theorem c_J5_charAt_5068e (l : Launch) (D : va_G) (cI cJ cB cZ : ClassId) (sz : Nat) (b0 : Nat) (b1 : Nat) (ml : Int32) (n : Nat) (i : Nat) (c : Nat) (f : Nat → Int32) (hi : i < n) (hn : n ≤ 16) (hc : c < 128) (hf : f i = nI c) : Met l yJ5_charAt_5068e wsJ5_charAt_5068e ({ frames := 2, cells := 0, slots := 0, locals := 43 }) (va_Pc [.ref b0, .int (nI i)] (pW D (TY cI cJ cB cZ) [(b0, .inr (1, [.ref b1, .int (nI 0), .int ml, .int (nI n)])), (b1, .inl (cB, 16, .inl f))] (pS [(b0, .inr (1, [.ref b1, .int (nI 0), .int ml, .int (nI n)])), (b1, .inl (cB, 16, .inl f))] sz) sz)) (va_Qi (fun (rv : Int32) (_ : Unit) => rv = nI c) (qW D (TY cI cJ cB cZ) (va_A [(b0, .inr (1, [.ref b1, .int (nI 0), .int ml, .int (nI n)])), (b1, .inl (cB, 16, .inl f))] sz) (fun _ => [(b0, .inr (1, [.ref b1, .int (nI 0), .int ml, .int (nI n)])), (b1, .inl (cB, 16, .inl f))])) (va_A [(b0, .inr (1, [.ref b1, .int (nI 0), .int ml, .int (nI n)])), (b1, .inl (cB, 16, .inl f))] sz)) 0 0 (va_A [(b0, .inr (1, [.ref b1, .int (nI 0), .int ml, .int (nI n)])), (b1, .inl (cB, 16, .inl f))] sz) := by
  refine gx_met RJ5 rfl (by decide) rfl (Nat.le_of_ble_eq_true rfl) ?_
  intro X hl hDx hAx C hQ hXP hsz hin
  subst hl; subst hDx
  unfold pS at hXP
  rw [← hAx] at hQ hXP
  have hX0 : stt (gx_A X) (gx_s X) (gx_s X).heap := hXP
  obtain ⟨hCS, hSF, ⟨tO, hO, hOt⟩, ⟨tT, hTn, hTt⟩⟩ := hX0
  have hX0 : stt (gx_A X) (gx_s X) (gx_s X).heap := hXP
  refine g_lv [0, 1] (lv' := [(0, .ref b0), (1, .int (nI i))]) rfl ?_
  refine g_aload_n C dJ5_charAt_5068e_0 1 rfl rfl ?_
  refine g_get C iw_J5_charAt_5068e_J4 0 rfl rfl 1 (by decide) (by decide +kernel) rfl rfl dJ5_charAt_5068e_1 4 rfl ?_
  refine g_istore_n C dJ5_charAt_5068e_4 5 rfl (by decide) [1, 2, 0] (lv' := [(0, .ref b0), (1, .int (nI i)), (2, .int (nI 0))]) rfl ?_
  refine g_aload_n C dJ5_charAt_5068e_5 6 rfl rfl ?_
  refine g_get C iw_J5_charAt_5068e_J4 0 rfl rfl 0 (by decide) (by decide +kernel) rfl rfl dJ5_charAt_5068e_6 9 rfl ?_
  refine g_astore_n C dJ5_charAt_5068e_9 10 rfl (by decide) [1, 2, 3, 0] (lv' := [(0, .ref b0), (1, .int (nI i)), (2, .int (nI 0)), (3, .ref b1)]) rfl ?_
  refine g_aload_n C dJ5_charAt_5068e_10 11 rfl rfl ?_
  refine g_get C iw_J5_charAt_5068e_J4 0 rfl rfl 3 (by decide) (by decide +kernel) rfl rfl dJ5_charAt_5068e_11 14 rfl ?_
  refine g_aload_n C dJ5_charAt_5068e_14 15 rfl rfl ?_
  refine g_alen C 1 2 rfl rfl (n := 16) rfl dJ5_charAt_5068e_15 16 rfl ?_
  refine g_iload_n C dJ5_charAt_5068e_16 17 rfl rfl ?_
  refine g_ishr C dJ5_charAt_5068e_17 18 rfl ?_
  refine g_topi (nI 16) (by decide) ?_
  refine g_minn C (by decide +kernel) (by decide +kernel) (by decide +kernel) (by first | exact List.mem_of_getElem? (i := 1) rfl | exact List.mem_of_getElem? (i := 2) rfl | exact List.mem_of_getElem? (i := 3) rfl | exact List.mem_of_getElem? (i := 4) rfl | exact List.mem_of_getElem? (i := 5) rfl | exact List.mem_of_getElem? (i := 6) rfl | exact List.mem_of_getElem? (i := 7) rfl | exact List.mem_of_getElem? (i := 8) rfl | exact List.mem_of_getElem? (i := 9) rfl | exact List.mem_of_getElem? (i := 10) rfl | exact List.mem_of_getElem? (i := 11) rfl | exact List.mem_of_getElem? (i := 12) rfl | exact List.mem_of_getElem? (i := 13) rfl | exact List.mem_of_getElem? (i := 14) rfl | exact List.mem_of_getElem? (i := 15) rfl | exact List.mem_of_getElem? (i := 16) rfl | exact List.mem_of_getElem? (i := 17) rfl | exact List.mem_of_getElem? (i := 18) rfl | exact List.mem_of_getElem? (i := 19) rfl | exact List.mem_of_getElem? (i := 20) rfl | exact List.mem_of_getElem? (i := 21) rfl | exact List.mem_of_getElem? (i := 22) rfl | exact List.mem_of_getElem? (i := 23) rfl | exact List.mem_of_getElem? (i := 24) rfl | exact List.mem_of_getElem? (i := 25) rfl | exact List.mem_of_getElem? (i := 26) rfl | exact List.mem_of_getElem? (i := 27) rfl | exact List.mem_of_getElem? (i := 28) rfl | exact List.mem_of_getElem? (i := 29) rfl | exact List.mem_of_getElem? (i := 30) rfl | exact List.mem_of_getElem? (i := 31) rfl | exact List.mem_of_getElem? (i := 32) rfl | exact List.mem_of_getElem? (i := 33) rfl | exact List.mem_of_getElem? (i := 34) rfl | exact List.mem_of_getElem? (i := 35) rfl | exact List.mem_of_getElem? (i := 36) rfl | exact List.mem_of_getElem? (i := 37) rfl | exact List.mem_of_getElem? (i := 38) rfl | exact List.mem_of_getElem? (i := 39) rfl | exact List.mem_of_getElem? (i := 40) rfl | exact List.mem_of_getElem? (i := 41) rfl | exact List.mem_of_getElem? (i := 42) rfl | exact List.mem_of_getElem? (i := 43) rfl | exact List.mem_of_getElem? (i := 44) rfl | exact List.mem_of_getElem? (i := 45) rfl | exact List.mem_of_getElem? (i := 46) rfl | exact List.mem_of_getElem? (i := 47) rfl | exact List.mem_of_getElem? (i := 48) rfl | exact List.mem_of_getElem? (i := 49) rfl | exact List.mem_of_getElem? (i := 50) rfl | exact List.mem_of_getElem? (i := 51) rfl | exact List.mem_of_getElem? (i := 52) rfl | exact List.mem_of_getElem? (i := 53) rfl | exact List.mem_of_getElem? (i := 54) rfl | exact List.mem_of_getElem? (i := 55) rfl | exact List.mem_of_getElem? (i := 56) rfl | exact List.mem_of_getElem? (i := 57) rfl | exact List.mem_of_getElem? (i := 58) rfl | exact List.mem_of_getElem? (i := 59) rfl) dJ5_charAt_5068e_18 21 rfl (Nat.le_of_ble_eq_true rfl) (Nat.le_of_ble_eq_true rfl) (Nat.zero_le _) (Nat.zero_le _) (by omega) (by omega) ?_
  refine g_istore C dJ5_charAt_5068e_21 23 rfl (by decide) [1, 2, 3, 4, 0] (lv' := [(0, .ref b0), (1, .int (nI i)), (2, .int (nI 0)), (3, .ref b1), (4, .int (nI n))]) rfl ?_
  refine g_iload_n C dJ5_charAt_5068e_23 24 rfl rfl ?_
  refine g_iload C dJ5_charAt_5068e_24 26 rfl rfl ?_
  refine g_callSvs (As := [.int (nI i), .int (nI n)]) (rest := []) (wr := [(b0, .inr (1, [.ref b1, .int (nI 0), .int ml, .int (nI n)])), (b1, .inl (cB, 16, .inl f))]) (ws' := fun (_ : Unit) => [(b0, .inr (1, [.ref b1, .int (nI 0), .int ml, .int (nI n)])), (b1, .inl (cB, 16, .inl f))]) C (fun sz => c_J0_checkIndex_df160 _ _ cI cJ cB cZ sz i n (by omega) (by omega)) (gx_stt hX0) 2 gJ5_charAt_5068e_J0_checkIndex_df160 rfl rfl rfl (by decide +kernel) ⟨Nat.le_of_ble_eq_true rfl, Nat.le_of_ble_eq_true rfl⟩ [] [0, 1] [0, 1] rfl (by decide) rfl (by decide) (by decide) (fun _ => rfl) (by decide) rfl rfl (Nat.le_of_ble_eq_true rfl) dJ5_charAt_5068e_26 ⟨Nat.le_of_ble_eq_true rfl, Nat.le_of_ble_eq_true rfl⟩ 29 rfl (fun _ _ => ?_)
  refine g_iload_n C dJ5_charAt_5068e_29 30 rfl rfl ?_
  refine g_if_ne_n C dJ5_charAt_5068e_30 42 33 (by decide) rfl (by omega) (fun c30 => ?_) (fun c30 => ?_)
  · exact absurd c30 (by omega)
  · refine g_aload_n C dJ5_charAt_5068e_33 34 rfl rfl ?_
    refine g_iload_n C dJ5_charAt_5068e_34 35 rfl rfl ?_
    refine g_bald C 1 2 rfl rfl i rfl (by omega) (by decide) dJ5_charAt_5068e_35 36 rfl ?_
    refine g_topi (nI c) hf ?_
    refine g_sipush (v := nI 255) C dJ5_charAt_5068e_36 39 rfl (by decide) ?_
    refine g_iand C dJ5_charAt_5068e_39 40 rfl ?_
    refine g_topi (nI c) (and255 hc) ?_
    refine g_i2c (v := nI c) C dJ5_charAt_5068e_40 41 rfl (i2c_s hc) ?_
    exact g_cret C hQ (Nat.le_of_ble_eq_true rfl) (Nat.le_of_ble_eq_true rfl) dJ5_charAt_5068e_41 (nar_c hc) () rfl rfl

set_option maxHeartbeats 4000000 in
set_option maxRecDepth 100000 in
theorem c_J4_charAt_5068e (l : Launch) (D : va_G) (cI cJ cB cZ : ClassId) (sz : Nat) (b0 : Nat) (b1 : Nat) (ml : Int32) (n : Nat) (i : Nat) (c : Nat) (f : Nat → Int32) (hi : i < n) (hn : n ≤ 16) (hc : c < 128) (hf : f i = nI c) : Met l yJ4_charAt_5068e wsJ4_charAt_5068e ({ frames := 3, cells := 0, slots := 0, locals := 67 }) (va_Pc [.ref b0, .int (nI i)] (pW D (TY cI cJ cB cZ) [(b0, .inr (1, [.ref b1, .int (nI 0), .int ml, .int (nI n)])), (b1, .inl (cB, 16, .inl f))] (pS [(b0, .inr (1, [.ref b1, .int (nI 0), .int ml, .int (nI n)])), (b1, .inl (cB, 16, .inl f))] sz) sz)) (va_Qi (fun (rv : Int32) (_ : Unit) => rv = nI c) (qW D (TY cI cJ cB cZ) (va_A [(b0, .inr (1, [.ref b1, .int (nI 0), .int ml, .int (nI n)])), (b1, .inl (cB, 16, .inl f))] sz) (fun _ => [(b0, .inr (1, [.ref b1, .int (nI 0), .int ml, .int (nI n)])), (b1, .inl (cB, 16, .inl f))])) (va_A [(b0, .inr (1, [.ref b1, .int (nI 0), .int ml, .int (nI n)])), (b1, .inl (cB, 16, .inl f))] sz)) 0 0 (va_A [(b0, .inr (1, [.ref b1, .int (nI 0), .int ml, .int (nI n)])), (b1, .inl (cB, 16, .inl f))] sz) := by
  refine gx_met RJ4 rfl (by decide) rfl (Nat.le_of_ble_eq_true rfl) ?_
  intro X hl hDx hAx C hQ hXP hsz hin
  subst hl; subst hDx
  unfold pS at hXP
  rw [← hAx] at hQ hXP
  have hX0 : stt (gx_A X) (gx_s X) (gx_s X).heap := hXP
  obtain ⟨hCS, hSF, ⟨tO, hO, hOt⟩, ⟨tT, hTn, hTt⟩⟩ := hX0
  have hX0 : stt (gx_A X) (gx_s X) (gx_s X).heap := hXP
  refine g_lv [0, 1] (lv' := [(0, .ref b0), (1, .int (nI i))]) rfl ?_
  refine g_aload_n C dJ4_charAt_5068e_0 1 rfl rfl ?_
  refine g_iload_n C dJ4_charAt_5068e_1 2 rfl rfl ?_
  refine g_callSUis (ci := 1) (q0 := 0) (As := [.int (nI i)]) (rest := []) (wr := []) (ws' := fun (_ : Unit) => [(b0, .inr (1, [.ref b1, .int (nI 0), .int ml, .int (nI n)])), (b1, .inl (cB, 16, .inl f))]) C (fun sz => c_J5_charAt_5068e _ _ cI cJ cB cZ sz b0 b1 ml n i c f (by omega) (by omega) hc hf) (gx_stt hX0) 1 gJ4_charAt_5068e_J5_charAt_5068e_s329 rfl rfl rfl (by decide +kernel) ⟨Nat.le_of_ble_eq_true rfl, Nat.le_of_ble_eq_true rfl⟩ rfl rfl [0, 1] [] [0, 1] rfl (by decide) rfl (by decide) (by decide) (fun _ => rfl) (by decide) rfl rfl (Nat.le_of_ble_eq_true rfl) dJ4_charAt_5068e_2 ⟨Nat.le_of_ble_eq_true rfl, Nat.le_of_ble_eq_true rfl⟩ 5 rfl (eqk ?_)
  exact g_cret C hQ (Nat.le_of_ble_eq_true rfl) (Nat.le_of_ble_eq_true rfl) dJ4_charAt_5068e_5 (nar_c hc) () rfl rfl
