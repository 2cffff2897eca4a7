theorem iw_J5_length_8abf5_J4 : ∀ w ∈ wsJ40, w ∈ wsJ5_length_8abf5 := by decide +kernel
set_option maxHeartbeats 4000000 in
set_option maxRecDepth 100000 in
theorem c_J5_length_8abf5 (l : Launch) (D : va_G) (cI cJ cB cZ : ClassId) (sz : Nat) (b0 : Nat) (b1 : Nat) (ml : Int32) (n : Nat)  : Met l yJ5_length_8abf5 wsJ5_length_8abf5 ({ frames := 0, cells := 0, slots := 0, locals := 0 }) (va_Pc [.ref b0] (pW D (TY cI cJ cB cZ) [(b0, .inr (1, [.ref b1, .int (nI 0), .int ml, .int (nI n)]))] (fun _ => True) sz)) (va_Qi (fun (rv : Int32) (_ : Unit) => rv = nI n) (qW D (TY cI cJ cB cZ) (va_A [(b0, .inr (1, [.ref b1, .int (nI 0), .int ml, .int (nI n)]))] sz) (fun _ => [(b0, .inr (1, [.ref b1, .int (nI 0), .int ml, .int (nI n)]))])) (va_A [(b0, .inr (1, [.ref b1, .int (nI 0), .int ml, .int (nI n)]))] sz)) 0 0 (va_A [(b0, .inr (1, [.ref b1, .int (nI 0), .int ml, .int (nI n)]))] sz) := by
  refine gx_met RJ5 rfl (by decide) rfl (Nat.le_of_ble_eq_true rfl) ?_
  intro X hl hDx hAx C hQ hXP hsz hin
  subst hl; subst hDx
  rw [← hAx] at hQ
  refine g_lv [0] (lv' := [(0, .ref b0)]) rfl ?_
  refine g_aload_n C dJ5_length_8abf5_0 1 rfl rfl ?_
  refine g_get C iw_J5_length_8abf5_J4 0 rfl rfl 3 (by decide) (by decide +kernel) rfl rfl dJ5_length_8abf5_1 4 rfl ?_
  exact g_iret C hQ (Nat.le_of_ble_eq_true rfl) (Nat.le_of_ble_eq_true rfl) dJ5_length_8abf5_4 () rfl rfl

set_option maxHeartbeats 4000000 in
set_option maxRecDepth 100000 in
theorem c_J4_length_8abf5 (l : Launch) (D : va_G) (cI cJ cB cZ : ClassId) (sz : Nat) (b0 : Nat) (b1 : Nat) (ml : Int32) (n : Nat)  : Met l yJ4_length_8abf5 wsJ4_length_8abf5 ({ frames := 1, cells := 0, slots := 0, locals := 20 }) (va_Pc [.ref b0] (pW D (TY cI cJ cB cZ) [(b0, .inr (1, [.ref b1, .int (nI 0), .int ml, .int (nI n)]))] (fun _ => True) sz)) (va_Qi (fun (rv : Int32) (_ : Unit) => rv = nI n) (qW D (TY cI cJ cB cZ) (va_A [(b0, .inr (1, [.ref b1, .int (nI 0), .int ml, .int (nI n)]))] sz) (fun _ => [(b0, .inr (1, [.ref b1, .int (nI 0), .int ml, .int (nI n)]))])) (va_A [(b0, .inr (1, [.ref b1, .int (nI 0), .int ml, .int (nI n)]))] sz)) 0 0 (va_A [(b0, .inr (1, [.ref b1, .int (nI 0), .int ml, .int (nI n)]))] sz) := by
  refine gx_met RJ4 rfl (by decide) rfl (Nat.le_of_ble_eq_true rfl) ?_
  intro X hl hDx hAx C hQ hXP hsz hin
  subst hl; subst hDx
  rw [← hAx] at hQ
  refine g_lv [0] (lv' := [(0, .ref b0)]) rfl ?_
  refine g_aload_n C dJ4_length_8abf5_0 1 rfl rfl ?_
  refine g_callSUis (ci := 1) (q0 := 0) (As := []) (rest := []) (wr := []) (ws' := fun (_ : Unit) => [(b0, .inr (1, [.ref b1, .int (nI 0), .int ml, .int (nI n)]))]) C (fun sz => c_J5_length_8abf5 _ _ cI cJ cB cZ sz b0 b1 ml n ) gx_XPs0 0 gJ4_length_8abf5_J5_length_8abf5_s343 rfl rfl rfl (by decide +kernel) ⟨Nat.le_of_ble_eq_true rfl, Nat.le_of_ble_eq_true rfl⟩ rfl rfl [0] [] [0] rfl (by decide) rfl (by decide) (by decide) (fun _ => rfl) (by decide) rfl rfl (Nat.le_of_ble_eq_true rfl) dJ4_length_8abf5_1 ⟨Nat.le_of_ble_eq_true rfl, Nat.le_of_ble_eq_true rfl⟩ 4 rfl (eqk ?_)
  exact g_iret C hQ (Nat.le_of_ble_eq_true rfl) (Nat.le_of_ble_eq_true rfl) dJ4_length_8abf5_4 () rfl rfl

theorem iw_J5_setLength_d00df_J4 : ∀ w ∈ wsJ40, w ∈ wsJ5_setLength_d00df := by decide +kernel
set_option maxHeartbeats 4000000 in
set_option maxRecDepth 100000 in
theorem c_J5_setLength_d00df (l : Launch) (D : va_G) (cI cJ cB cZ : ClassId) (sz : Nat) (b0 : Nat) (b1 : Nat) (ml : Int32) (n : Nat) (f : Nat → Int32) (hn : n ≤ 16) : Met l yJ5_setLength_d00df wsJ5_setLength_d00df ({ frames := 1, cells := 0, slots := 0, locals := 22 }) (va_Pc [.ref b0, .int (nI 0)] (pW D (TY cI cJ cB cZ) [(b0, .inr (1, [.ref b1, .int (nI 0), .int ml, .int (nI n)])), (b1, .inl (cB, 16, .inl f))] (fun _ => True) sz)) (va_Qv (fun (u : Int32) => True) (qW D (TY cI cJ cB cZ) (va_A [(b0, .inr (1, [.ref b1, .int (nI 0), .int ml, .int (nI n)])), (b1, .inl (cB, 16, .inl f))] sz) (fun u => [(b0, .inr (1, [.ref b1, .int (nI 0), .int u, .int (nI 0)])), (b1, .inl (cB, 16, .inl f))])) (va_A [(b0, .inr (1, [.ref b1, .int (nI 0), .int ml, .int (nI n)])), (b1, .inl (cB, 16, .inl f))] sz)) 0 0 (va_A [(b0, .inr (1, [.ref b1, .int (nI 0), .int ml, .int (nI n)])), (b1, .inl (cB, 16, .inl f))] sz) := by
  refine gx_met RJ5 rfl (by decide) rfl (Nat.le_of_ble_eq_true rfl) ?_
  intro X hl hDx hAx C hQ hXP hsz hin
  subst hl; subst hDx
  rw [← hAx] at hQ
  refine g_lv [0, 1] (lv' := [(0, .ref b0), (1, .int (nI 0))]) rfl ?_
  refine g_iload_n C dJ5_setLength_d00df_0 1 rfl rfl ?_
  refine g_if_ge_n C dJ5_setLength_d00df_1 13 4 (by decide) rfl (by omega) ?_
  refine g_aload_n C dJ5_setLength_d00df_13 14 rfl rfl ?_
  refine g_iload_n C dJ5_setLength_d00df_14 15 rfl rfl ?_
  refine g_callUvs (ci := 1) (q0 := 0) (As := [.int (nI 0)]) (rest := []) (wr := []) (ws' := fun (_ : Unit) => [(b0, .inr (1, [.ref b1, .int (nI 0), .int ml, .int (nI n)])), (b1, .inl (cB, 16, .inl f))]) C (fun sz => c_J5_ensureCapacityInternal_d00df _ _ cI cJ cB cZ sz b0 b1 ml (nI n) f 0 (by omega)) gx_XPs0 1 gJ5_setLength_d00df_J5_ensureCapacityInternal_d00df_u100J4 rfl rfl rfl rfl (by decide +kernel) ⟨Nat.le_of_ble_eq_true rfl, Nat.le_of_ble_eq_true rfl⟩ rfl rfl [0, 1] [] [0, 1] rfl (by decide) rfl (by decide) (by decide) (fun _ => rfl) (by decide) rfl rfl (Nat.le_of_ble_eq_true rfl) dJ5_setLength_d00df_15 ⟨Nat.le_of_ble_eq_true rfl, Nat.le_of_ble_eq_true rfl⟩ 18 rfl (fun _ _ => ?_)
  refine g_aload_n C dJ5_setLength_d00df_18 19 rfl rfl ?_
  refine g_get C iw_J5_setLength_d00df_J4 0 rfl rfl 3 (by decide) (by decide +kernel) rfl rfl dJ5_setLength_d00df_19 22 rfl ?_
  refine g_iload_n C dJ5_setLength_d00df_22 23 rfl rfl ?_
  refine g_icmp_ge_n C dJ5_setLength_d00df_23 63 26 (by decide) rfl (by omega) (by omega) (fun c23 => ?_) (fun c23 => ?_)
  · refine g_aload_n C dJ5_setLength_d00df_63 64 rfl rfl ?_
    refine g_get C iw_J5_setLength_d00df_J4 0 rfl rfl 3 (by decide) (by decide +kernel) rfl rfl dJ5_setLength_d00df_64 67 rfl ?_
    refine g_iload_n C dJ5_setLength_d00df_67 68 rfl rfl ?_
    refine g_icmp_le_n C dJ5_setLength_d00df_68 76 71 (by decide) rfl (by omega) (by omega) (fun c68 => ?_) (fun c68 => ?_)
    · refine g_aload_n C dJ5_setLength_d00df_76 77 rfl rfl ?_
      refine g_iload_n C dJ5_setLength_d00df_77 78 rfl rfl ?_
      refine g_put C (ty := .int) iw_J5_setLength_d00df_J4 tyJ4 tyJ4_ok nmJ4 0 rfl rfl 3 (by decide) (by decide +kernel) rfl rfl (by decide +kernel) rfl rfl (Nat.le_of_ble_eq_true rfl) dJ5_setLength_d00df_78 81 rfl (ws' := [(b0, .inr (1, [.ref b1, .int (nI 0), .int ml, .int (nI 0)])), (b1, .inl (cB, 16, .inl f))]) rfl ?_
      exact g_vret C hQ (Nat.le_of_ble_eq_true rfl) (Nat.le_of_ble_eq_true rfl) dJ5_setLength_d00df_81 (ml) trivial (by first | (dsimp only; done) | rfl)
    · refine g_aload_n C dJ5_setLength_d00df_71 72 rfl rfl ?_
      refine g_iconst (v := nI 1) C dJ5_setLength_d00df_72 73 rfl (by decide) ?_
      refine g_put C (ty := .boolean) iw_J5_setLength_d00df_J4 tyJ4 tyJ4_ok nmJ4 0 rfl rfl 2 (by decide) (by decide +kernel) rfl rfl (by decide +kernel) rfl rfl (Nat.le_of_ble_eq_true rfl) dJ5_setLength_d00df_73 76 rfl (ws' := [(b0, .inr (1, [.ref b1, .int (nI 0), .int (nI 1), .int (nI n)])), (b1, .inl (cB, 16, .inl f))]) rfl ?_
      refine g_aload_n C dJ5_setLength_d00df_76 77 rfl rfl ?_
      refine g_iload_n C dJ5_setLength_d00df_77 78 rfl rfl ?_
      refine g_put C (ty := .int) iw_J5_setLength_d00df_J4 tyJ4 tyJ4_ok nmJ4 0 rfl rfl 3 (by decide) (by decide +kernel) rfl rfl (by decide +kernel) rfl rfl (Nat.le_of_ble_eq_true rfl) dJ5_setLength_d00df_78 81 rfl (ws' := [(b0, .inr (1, [.ref b1, .int (nI 0), .int (nI 1), .int (nI 0)])), (b1, .inl (cB, 16, .inl f))]) rfl ?_
      exact g_vret C hQ (Nat.le_of_ble_eq_true rfl) (Nat.le_of_ble_eq_true rfl) dJ5_setLength_d00df_81 (nI 1) trivial (by first | (dsimp only; done) | rfl)
  · exact absurd c23 (by omega)

set_option maxHeartbeats 4000000 in
set_option maxRecDepth 100000 in
theorem c_J4_setLength_d00df (l : Launch) (D : va_G) (cI cJ cB cZ : ClassId) (sz : Nat) (b0 : Nat) (b1 : Nat) (ml : Int32) (n : Nat) (f : Nat → Int32) (hn : n ≤ 16) : Met l yJ4_setLength_d00df wsJ4_setLength_d00df ({ frames := 2, cells := 0, slots := 0, locals := 43 }) (va_Pc [.ref b0, .int (nI 0)] (pW D (TY cI cJ cB cZ) [(b0, .inr (1, [.ref b1, .int (nI 0), .int ml, .int (nI n)])), (b1, .inl (cB, 16, .inl f))] (fun _ => True) sz)) (va_Qv (fun (u : Int32) => True) (qW D (TY cI cJ cB cZ) (va_A [(b0, .inr (1, [.ref b1, .int (nI 0), .int ml, .int (nI n)])), (b1, .inl (cB, 16, .inl f))] sz) (fun u => [(b0, .inr (1, [.ref b1, .int (nI 0), .int u, .int (nI 0)])), (b1, .inl (cB, 16, .inl f))])) (va_A [(b0, .inr (1, [.ref b1, .int (nI 0), .int ml, .int (nI n)])), (b1, .inl (cB, 16, .inl f))] sz)) 0 0 (va_A [(b0, .inr (1, [.ref b1, .int (nI 0), .int ml, .int (nI n)])), (b1, .inl (cB, 16, .inl f))] sz) := by
  refine gx_met RJ4 rfl (by decide) rfl (Nat.le_of_ble_eq_true rfl) ?_
  intro X hl hDx hAx C hQ hXP hsz hin
  subst hl; subst hDx
  rw [← hAx] at hQ
  refine g_lv [0, 1] (lv' := [(0, .ref b0), (1, .int (nI 0))]) rfl ?_
  refine g_aload_n C dJ4_setLength_d00df_0 1 rfl rfl ?_
  refine g_iload_n C dJ4_setLength_d00df_1 2 rfl rfl ?_
  refine g_callSUvs (ci := 1) (q0 := 0) (As := [.int (nI 0)]) (rest := []) (wr := []) (ws' := fun (u : Int32) => [(b0, .inr (1, [.ref b1, .int (nI 0), .int u, .int (nI 0)])), (b1, .inl (cB, 16, .inl f))]) C (fun sz => c_J5_setLength_d00df _ _ cI cJ cB cZ sz b0 b1 ml n f (by omega)) gx_XPs0 1 gJ4_setLength_d00df_J5_setLength_d00df_s333 rfl rfl rfl (by decide +kernel) ⟨Nat.le_of_ble_eq_true rfl, Nat.le_of_ble_eq_true rfl⟩ rfl rfl [0, 1] [] [0, 1] rfl (by decide) rfl (by decide) (by decide) (fun _ => rfl) (by decide) rfl rfl (Nat.le_of_ble_eq_true rfl) dJ4_setLength_d00df_2 ⟨Nat.le_of_ble_eq_true rfl, Nat.le_of_ble_eq_true rfl⟩ 5 rfl (fun u hr2 => ?_)
  obtain ⟨ml1_1, rfl⟩ : ∃ z, z = u := ⟨_, rfl⟩
  try dsimp only at hr2
  exact g_vret C hQ (Nat.le_of_ble_eq_true rfl) (Nat.le_of_ble_eq_true rfl) dJ4_setLength_d00df_5 (ml1_1) trivial (by first | (dsimp only; done) | rfl)

set_option maxHeartbeats 4000000 in
set_option maxRecDepth 100000 in
theorem c_J1_canEncode_fc78d (l : Launch) (D : va_G) (cI cJ cB cZ : ClassId) (sz : Nat) (c : Nat) (hc : c < 128) : Met l yJ1_canEncode_fc78d wsJ1_canEncode_fc78d ({ frames := 0, cells := 0, slots := 0, locals := 0 }) (va_Pc [.int (nI c)] (pW D (TY cI cJ cB cZ) [] (fun _ => True) sz)) (va_Qi (fun (rv : Int32) (_ : Unit) => rv = nI 1) (qW D (TY cI cJ cB cZ) (va_A [] sz) (fun _ => [])) (va_A [] sz)) 0 0 (va_A [] sz) := by
  refine gx_met RJ1 rfl (by decide) rfl (Nat.le_of_ble_eq_true rfl) ?_
  intro X hl hDx hAx C hQ hXP hsz hin
  subst hl; subst hDx
  rw [← hAx] at hQ
  refine g_lv [0] (lv' := [(0, .int (nI c))]) rfl ?_
  refine g_iload_n C dJ1_canEncode_fc78d_0 1 rfl rfl ?_
  refine g_sipush (v := nI 255) C dJ1_canEncode_fc78d_1 4 rfl (by decide) ?_
  refine g_icmp_gt_n C dJ1_canEncode_fc78d_4 11 7 (by decide) rfl (by omega) (by omega) (fun c4 => ?_) (fun c4 => ?_)
  · exact absurd c4 (by omega)
  · refine g_iconst (v := nI 1) C dJ1_canEncode_fc78d_7 8 rfl (by decide) ?_
    refine g_goto C dJ1_canEncode_fc78d_8 12 (by decide) ?_
    exact g_zret C hQ (Nat.le_of_ble_eq_true rfl) (Nat.le_of_ble_eq_true rfl) dJ1_canEncode_fc78d_12 rfl () rfl rfl

theorem iw_J5_append_3fe6f_J4 : ∀ w ∈ wsJ40, w ∈ wsJ5_append_3fe6f := by decide +kernel
set_option maxHeartbeats 4000000 in
set_option maxRecDepth 100000 in
theorem c_J5_append_3fe6f (l : Launch) (D : va_G) (cI cJ cB cZ : ClassId) (sz : Nat) (b0 : Nat) (b1 : Nat) (ml : Int32) (n : Nat) (c : Nat) (f : Nat → Int32) (hc : c < 128) (hn : n < 16) : Met l yJ5_append_3fe6f wsJ5_append_3fe6f ({ frames := 1, cells := 0, slots := 0, locals := 22 }) (va_Pc [.ref b0, .int (nI c)] (pW D (TY cI cJ cB cZ) [(b0, .inr (1, [.ref b1, .int (nI 0), .int ml, .int (nI n)])), (b1, .inl (cB, 16, .inl f))] (pS [(b0, .inr (1, [.ref b1, .int (nI 0), .int ml, .int (nI n)])), (b1, .inl (cB, 16, .inl f))] sz) sz)) (va_Qr (fun (_ : Unit) => True) (qR D (TY cI cJ cB cZ) (va_A [(b0, .inr (1, [.ref b1, .int (nI 0), .int ml, .int (nI n)])), (b1, .inl (cB, 16, .inl f))] sz) (fun _ => [(b0, .inr (1, [.ref b1, .int (nI 0), .int ml, .int (nI (n + 1))])), (b1, .inl (cB, 16, .inl (upd f n (nI c))))]) b0) (va_A [(b0, .inr (1, [.ref b1, .int (nI 0), .int ml, .int (nI n)])), (b1, .inl (cB, 16, .inl f))] sz)) 0 0 (va_A [(b0, .inr (1, [.ref b1, .int (nI 0), .int ml, .int (nI n)])), (b1, .inl (cB, 16, .inl f))] sz) := by
  refine gx_met RJ5 rfl (by decide) rfl (Nat.le_of_ble_eq_true rfl) ?_
  intro X hl hDx hAx C hQ hXP hsz hin
  subst hl; subst hDx
  unfold pS at hXP
  rw [← hAx] at hQ hXP
  have hX0 : stt (gx_A X) (gx_s X) (gx_s X).heap := hXP
  obtain ⟨hCS, hSF, ⟨tO, hO, hOt⟩, ⟨tT, hTn, hTt⟩⟩ := hX0
  have hX0 : stt (gx_A X) (gx_s X) (gx_s X).heap := hXP
  refine g_lv [0, 1] (lv' := [(0, .ref b0), (1, .int (nI c))]) rfl ?_
  refine g_aload_n C dJ5_append_3fe6f_0 1 rfl rfl ?_
  refine g_aload_n C dJ5_append_3fe6f_1 2 rfl rfl ?_
  refine g_get C iw_J5_append_3fe6f_J4 0 rfl rfl 3 (by decide) (by decide +kernel) rfl rfl dJ5_append_3fe6f_2 5 rfl ?_
  refine g_iconst (v := nI 1) C dJ5_append_3fe6f_5 6 rfl (by decide) ?_
  refine g_iaddn C dJ5_append_3fe6f_6 7 rfl ?_
  refine g_callUvs (ci := 1) (q0 := 0) (As := [.int (nI (n + 1))]) (rest := []) (wr := []) (ws' := fun (_ : Unit) => [(b0, .inr (1, [.ref b1, .int (nI 0), .int ml, .int (nI n)])), (b1, .inl (cB, 16, .inl f))]) C (fun sz => c_J5_ensureCapacityInternal_d00df _ _ cI cJ cB cZ sz b0 b1 ml (nI n) f (n + 1) (by omega)) gx_XPs0 1 gJ5_append_3fe6f_J5_ensureCapacityInternal_d00df_u100J4 rfl rfl rfl rfl (by decide +kernel) ⟨Nat.le_of_ble_eq_true rfl, Nat.le_of_ble_eq_true rfl⟩ rfl rfl [0, 1] [] [0, 1] rfl (by decide) rfl (by decide) (by decide) (fun _ => rfl) (by decide) rfl rfl (Nat.le_of_ble_eq_true rfl) dJ5_append_3fe6f_7 ⟨Nat.le_of_ble_eq_true rfl, Nat.le_of_ble_eq_true rfl⟩ 10 rfl (fun _ _ => ?_)
  refine g_aload_n C dJ5_append_3fe6f_10 11 rfl rfl ?_
  refine g_callUis (ci := 1) (q0 := 0) (As := []) (rest := []) (wr := [(b1, .inl (cB, 16, .inl f))]) (ws' := fun (_ : Unit) => [(b0, .inr (1, [.ref b1, .int (nI 0), .int ml, .int (nI n)])), (b1, .inl (cB, 16, .inl f))]) C (fun sz => c_J5_isLatin1_aae02 _ _ cI cJ cB cZ sz b0 b1 ml (nI n) ) (gx_stt hX0) 0 gJ5_append_3fe6f_J5_isLatin1_aae02_u83J4 rfl rfl rfl rfl (by decide +kernel) ⟨Nat.le_of_ble_eq_true rfl, Nat.le_of_ble_eq_true rfl⟩ rfl rfl [0] [1] [1, 0] rfl (by decide) rfl (by decide) (by decide) (fun _ => rfl) (by decide) rfl rfl (Nat.le_of_ble_eq_true rfl) dJ5_append_3fe6f_11 ⟨Nat.le_of_ble_eq_true rfl, Nat.le_of_ble_eq_true rfl⟩ 14 rfl (eqk ?_)
  refine g_if_eq_n C dJ5_append_3fe6f_14 45 17 (by decide) rfl (by omega) (fun c14 => ?_) (fun c14 => ?_)
  · exact absurd c14 (by omega)
  · refine g_iload_n C dJ5_append_3fe6f_17 18 rfl rfl ?_
    refine g_callSi (As := [.int (nI c)]) (rest := []) (wr := [(b0, .inr (1, [.ref b1, .int (nI 0), .int ml, .int (nI n)])), (b1, .inl (cB, 16, .inl f))]) (ws' := fun (_ : Unit) => [(b0, .inr (1, [.ref b1, .int (nI 0), .int ml, .int (nI n)])), (b1, .inl (cB, 16, .inl f))]) C (fun sz => c_J1_canEncode_fc78d _ _ cI cJ cB cZ sz c (by omega)) gx_XP0 1 gJ5_append_3fe6f_J1_canEncode_fc78d rfl rfl rfl (by decide +kernel) ⟨Nat.le_of_ble_eq_true rfl, Nat.le_of_ble_eq_true rfl⟩ [] [0, 1] [0, 1] rfl (by decide) rfl (by decide) (by decide) (fun _ => rfl) (by decide) rfl rfl (Nat.le_of_ble_eq_true rfl) dJ5_append_3fe6f_18 ⟨Nat.le_of_ble_eq_true rfl, Nat.le_of_ble_eq_true rfl⟩ 21 rfl (eqk ?_)
    refine g_if_eq_n C dJ5_append_3fe6f_21 45 24 (by decide) rfl (by omega) (fun c21 => ?_) (fun c21 => ?_)
    · exact absurd c21 (by omega)
    · refine g_aload_n C dJ5_append_3fe6f_24 25 rfl rfl ?_
      refine g_get C iw_J5_append_3fe6f_J4 0 rfl rfl 0 (by decide) (by decide +kernel) rfl rfl dJ5_append_3fe6f_25 28 rfl ?_
      refine g_aload_n C dJ5_append_3fe6f_28 29 rfl rfl ?_
      refine g_dup C dJ5_append_3fe6f_29 30 rfl rfl ?_
      refine g_get C iw_J5_append_3fe6f_J4 0 rfl rfl 3 (by decide) (by decide +kernel) rfl rfl dJ5_append_3fe6f_30 33 rfl ?_
      refine g_dup_x1 C dJ5_append_3fe6f_33 34 rfl rfl rfl ?_
      refine g_iconst (v := nI 1) C dJ5_append_3fe6f_34 35 rfl (by decide) ?_
      refine g_iaddn C dJ5_append_3fe6f_35 36 rfl ?_
      refine g_put C (ty := .int) iw_J5_append_3fe6f_J4 tyJ4 tyJ4_ok nmJ4 0 rfl rfl 3 (by decide) (by decide +kernel) rfl rfl (by decide +kernel) rfl rfl (Nat.le_of_ble_eq_true rfl) dJ5_append_3fe6f_36 39 rfl (ws' := [(b0, .inr (1, [.ref b1, .int (nI 0), .int ml, .int (nI (n + 1))])), (b1, .inl (cB, 16, .inl f))]) rfl ?_
      refine g_iload_n C dJ5_append_3fe6f_39 40 rfl rfl ?_
      refine g_i2b (v := nI c) C dJ5_append_3fe6f_40 41 rfl (i2b_s hc) ?_
      refine g_bast C 1 2 rfl rfl n rfl (by omega) (by decide) dJ5_append_3fe6f_41 42 rfl (ws' := [(b0, .inr (1, [.ref b1, .int (nI 0), .int ml, .int (nI (n + 1))])), (b1, .inl (cB, 16, .inl (upd f n (nI c))))]) (by rw [show vp_nar .byte (nI c) = nI c from nar_b (by omega)]; rfl) ?_
      refine g_goto C dJ5_append_3fe6f_42 75 (by decide) ?_
      refine g_aload_n C dJ5_append_3fe6f_75 76 rfl rfl ?_
      exact g_aret C hQ (Nat.le_of_ble_eq_true rfl) (Nat.le_of_ble_eq_true rfl) dJ5_append_3fe6f_76 () trivial rfl

set_option maxHeartbeats 4000000 in
set_option maxRecDepth 100000 in
theorem c_J4_append_cf468 (l : Launch) (D : va_G) (cI cJ cB cZ : ClassId) (sz : Nat) (b0 : Nat) (b1 : Nat) (ml : Int32) (n : Nat) (c : Nat) (f : Nat → Int32) (hc : c < 128) (hn : n < 16) : Met l yJ4_append_cf468 wsJ4_append_cf468 ({ frames := 2, cells := 0, slots := 0, locals := 43 }) (va_Pc [.ref b0, .int (nI c)] (pW D (TY cI cJ cB cZ) [(b0, .inr (1, [.ref b1, .int (nI 0), .int ml, .int (nI n)])), (b1, .inl (cB, 16, .inl f))] (pS [(b0, .inr (1, [.ref b1, .int (nI 0), .int ml, .int (nI n)])), (b1, .inl (cB, 16, .inl f))] sz) sz)) (va_Qr (fun (_ : Unit) => True) (qR D (TY cI cJ cB cZ) (va_A [(b0, .inr (1, [.ref b1, .int (nI 0), .int ml, .int (nI n)])), (b1, .inl (cB, 16, .inl f))] sz) (fun _ => [(b0, .inr (1, [.ref b1, .int (nI 0), .int ml, .int (nI (n + 1))])), (b1, .inl (cB, 16, .inl (upd f n (nI c))))]) b0) (va_A [(b0, .inr (1, [.ref b1, .int (nI 0), .int ml, .int (nI n)])), (b1, .inl (cB, 16, .inl f))] sz)) 0 0 (va_A [(b0, .inr (1, [.ref b1, .int (nI 0), .int ml, .int (nI n)])), (b1, .inl (cB, 16, .inl f))] sz) := by
  refine gx_met RJ4 rfl (by decide) rfl (Nat.le_of_ble_eq_true rfl) ?_
  intro X hl hDx hAx C hQ hXP hsz hin
  subst hl; subst hDx
  unfold pS at hXP
  rw [← hAx] at hQ hXP
  have hX0 : stt (gx_A X) (gx_s X) (gx_s X).heap := hXP
  obtain ⟨hCS, hSF, ⟨tO, hO, hOt⟩, ⟨tT, hTn, hTt⟩⟩ := hX0
  have hX0 : stt (gx_A X) (gx_s X) (gx_s X).heap := hXP
  refine g_lv [0, 1] (lv' := [(0, .ref b0), (1, .int (nI c))]) rfl ?_
  refine g_aload_n C dJ4_append_cf468_0 1 rfl rfl ?_
  refine g_iload_n C dJ4_append_cf468_1 2 rfl rfl ?_
  refine g_callSUas (ci := 1) (q0 := 0) (As := [.int (nI c)]) (rest := []) (wr := []) (ws' := fun (_ : Unit) => [(b0, .inr (1, [.ref b1, .int (nI 0), .int ml, .int (nI (n + 1))])), (b1, .inl (cB, 16, .inl (upd f n (nI c))))]) C (fun sz => c_J5_append_3fe6f _ _ cI cJ cB cZ sz b0 b1 ml n c f (by omega) (by omega)) (gx_stt hX0) 1 gJ4_append_cf468_J5_append_3fe6f_s50 rfl rfl rfl (by decide +kernel) ⟨Nat.le_of_ble_eq_true rfl, Nat.le_of_ble_eq_true rfl⟩ rfl rfl [0, 1] [] [0, 1] rfl (by decide) rfl (by decide) (by decide) (fun _ => rfl) (by decide) rfl rfl (Nat.le_of_ble_eq_true rfl) dJ4_append_cf468_2 ⟨Nat.le_of_ble_eq_true rfl, Nat.le_of_ble_eq_true rfl⟩ 5 rfl (fun _ _ => ?_)
  refine g_pop C dJ4_append_cf468_5 6 rfl rfl ?_
  refine g_aload_n C dJ4_append_cf468_6 7 rfl rfl ?_
  exact g_aret C hQ (Nat.le_of_ble_eq_true rfl) (Nat.le_of_ble_eq_true rfl) dJ4_append_cf468_7 () trivial rfl
