theorem iw_X2_tellRow_X2 : ∀ w ∈ wsX20, w ∈ wsX2_tellRow := by decide +kernel
set_option maxHeartbeats 4000000 in
set_option maxRecDepth 100000 in
theorem c_X2_tellRow (l : Launch) (D : va_G) (cI cJ cB cZ : ClassId) (sz : Nat) (r0 : Nat) (r1 : Nat) (r2 : Nat) (r3 : Nat) (ar : Nat → Int64) (ma : Nat → Int64) (mo : Nat → Int64) (a : Nat) (x : Int64) (y : Int64) (z : Int64) (ha : a < 10) : Met l yX2_tellRow wsX2_tellRow ({ frames := 0, cells := 0, slots := 0, locals := 0 }) (va_Pc [.ref r0, .int (nI a), .long x, .long y, .long z] (pW D (TY cI cJ cB cZ) [(r0, .inr (6, [.ref r1, .ref r2, .ref r3])), (r1, .inl (cJ, 10, .inr (.inl ar))), (r2, .inl (cJ, 10, .inr (.inl ma))), (r3, .inl (cJ, 10, .inr (.inl mo)))] (fun _ => True) sz)) (va_Qi (fun (rv : Int32) (_ : Unit) => rv = bI (!(decide (ar a = x) && decide (ma a = y) && decide (mo a = z)))) (qW D (TY cI cJ cB cZ) (va_A [(r0, .inr (6, [.ref r1, .ref r2, .ref r3])), (r1, .inl (cJ, 10, .inr (.inl ar))), (r2, .inl (cJ, 10, .inr (.inl ma))), (r3, .inl (cJ, 10, .inr (.inl mo)))] sz) (fun _ => [(r0, .inr (6, [.ref r1, .ref r2, .ref r3])), (r1, .inl (cJ, 10, .inr (.inl (vp_updL ar a x)))), (r2, .inl (cJ, 10, .inr (.inl (vp_updL ma a y)))), (r3, .inl (cJ, 10, .inr (.inl (vp_updL mo a z))))])) (va_A [(r0, .inr (6, [.ref r1, .ref r2, .ref r3])), (r1, .inl (cJ, 10, .inr (.inl ar))), (r2, .inl (cJ, 10, .inr (.inl ma))), (r3, .inl (cJ, 10, .inr (.inl mo)))] sz)) 0 0 (va_A [(r0, .inr (6, [.ref r1, .ref r2, .ref r3])), (r1, .inl (cJ, 10, .inr (.inl ar))), (r2, .inl (cJ, 10, .inr (.inl ma))), (r3, .inl (cJ, 10, .inr (.inl mo)))] sz) := by
  refine gx_met RX2 rfl (by decide) rfl (Nat.le_of_ble_eq_true rfl) ?_
  intro X hl hDx hAx C hQ hXP hsz hin
  subst hl; subst hDx
  rw [← hAx] at hQ
  refine g_lv [0, 1, 2, 3, 4] (lv' := [(0, .ref r0), (1, .int (nI a)), (2, .long x), (4, .long y), (6, .long z)]) rfl ?_
  refine g_aload_n C dX2_tellRow_0 1 rfl rfl ?_
  refine g_get C iw_X2_tellRow_X2 0 rfl rfl 0 (by decide) (by decide +kernel) rfl rfl dX2_tellRow_1 4 rfl ?_
  refine g_iload_n C dX2_tellRow_4 5 rfl rfl ?_
  refine g_lald C 1 1 rfl rfl a rfl (by omega) (by decide) dX2_tellRow_5 6 rfl ?_
  refine g_lload_n C dX2_tellRow_6 7 rfl rfl ?_
  refine g_lc_ne C dX2_tellRow_7 8 rfl dX2_tellRow_8 35 11 (by decide) rfl (fun c7 => ?_) (fun c7 => ?_)
  · refine g_iconst (v := nI 1) C dX2_tellRow_35 36 rfl (by decide) ?_
    refine g_goto C dX2_tellRow_36 40 (by decide) ?_
    refine g_istore C dX2_tellRow_40 42 rfl (by decide) [1, 2, 3, 4, 5, 0] (lv' := [(0, .ref r0), (1, .int (nI a)), (2, .long x), (4, .long y), (6, .long z), (8, .int (nI 1))]) rfl ?_
    refine g_aload_n C dX2_tellRow_42 43 rfl rfl ?_
    refine g_get C iw_X2_tellRow_X2 0 rfl rfl 0 (by decide) (by decide +kernel) rfl rfl dX2_tellRow_43 46 rfl ?_
    refine g_iload_n C dX2_tellRow_46 47 rfl rfl ?_
    refine g_lload_n C dX2_tellRow_47 48 rfl rfl ?_
    refine g_last C 1 1 rfl rfl a rfl (by omega) (by decide) dX2_tellRow_48 49 rfl (ws' := [(r0, .inr (6, [.ref r1, .ref r2, .ref r3])), (r1, .inl (cJ, 10, .inr (.inl (vp_updL ar a x)))), (r2, .inl (cJ, 10, .inr (.inl ma))), (r3, .inl (cJ, 10, .inr (.inl mo)))]) rfl ?_
    refine g_aload_n C dX2_tellRow_49 50 rfl rfl ?_
    refine g_get C iw_X2_tellRow_X2 0 rfl rfl 1 (by decide) (by decide +kernel) rfl rfl dX2_tellRow_50 53 rfl ?_
    refine g_iload_n C dX2_tellRow_53 54 rfl rfl ?_
    refine g_lload C dX2_tellRow_54 56 rfl rfl ?_
    refine g_last C 2 1 rfl rfl a rfl (by omega) (by decide) dX2_tellRow_56 57 rfl (ws' := [(r0, .inr (6, [.ref r1, .ref r2, .ref r3])), (r1, .inl (cJ, 10, .inr (.inl (vp_updL ar a x)))), (r2, .inl (cJ, 10, .inr (.inl (vp_updL ma a y)))), (r3, .inl (cJ, 10, .inr (.inl mo)))]) rfl ?_
    refine g_aload_n C dX2_tellRow_57 58 rfl rfl ?_
    refine g_get C iw_X2_tellRow_X2 0 rfl rfl 2 (by decide) (by decide +kernel) rfl rfl dX2_tellRow_58 61 rfl ?_
    refine g_iload_n C dX2_tellRow_61 62 rfl rfl ?_
    refine g_lload C dX2_tellRow_62 64 rfl rfl ?_
    refine g_last C 3 1 rfl rfl a rfl (by omega) (by decide) dX2_tellRow_64 65 rfl (ws' := [(r0, .inr (6, [.ref r1, .ref r2, .ref r3])), (r1, .inl (cJ, 10, .inr (.inl (vp_updL ar a x)))), (r2, .inl (cJ, 10, .inr (.inl (vp_updL ma a y)))), (r3, .inl (cJ, 10, .inr (.inl (vp_updL mo a z))))]) rfl ?_
    refine g_iload C dX2_tellRow_65 67 rfl rfl ?_
    exact g_zret C hQ (Nat.le_of_ble_eq_true rfl) (Nat.le_of_ble_eq_true rfl) dX2_tellRow_67 rfl () (by simp [bI, nI_one, nI_0, c7]) rfl
  · refine g_aload_n C dX2_tellRow_11 12 rfl rfl ?_
    refine g_get C iw_X2_tellRow_X2 0 rfl rfl 1 (by decide) (by decide +kernel) rfl rfl dX2_tellRow_12 15 rfl ?_
    refine g_iload_n C dX2_tellRow_15 16 rfl rfl ?_
    refine g_lald C 2 1 rfl rfl a rfl (by omega) (by decide) dX2_tellRow_16 17 rfl ?_
    refine g_lload C dX2_tellRow_17 19 rfl rfl ?_
    refine g_lc_ne C dX2_tellRow_19 20 rfl dX2_tellRow_20 35 23 (by decide) rfl (fun c19 => ?_) (fun c19 => ?_)
    · refine g_iconst (v := nI 1) C dX2_tellRow_35 36 rfl (by decide) ?_
      refine g_goto C dX2_tellRow_36 40 (by decide) ?_
      refine g_istore C dX2_tellRow_40 42 rfl (by decide) [1, 2, 3, 4, 5, 0] (lv' := [(0, .ref r0), (1, .int (nI a)), (2, .long x), (4, .long y), (6, .long z), (8, .int (nI 1))]) rfl ?_
      refine g_aload_n C dX2_tellRow_42 43 rfl rfl ?_
      refine g_get C iw_X2_tellRow_X2 0 rfl rfl 0 (by decide) (by decide +kernel) rfl rfl dX2_tellRow_43 46 rfl ?_
      refine g_iload_n C dX2_tellRow_46 47 rfl rfl ?_
      refine g_lload_n C dX2_tellRow_47 48 rfl rfl ?_
      refine g_last C 1 1 rfl rfl a rfl (by omega) (by decide) dX2_tellRow_48 49 rfl (ws' := [(r0, .inr (6, [.ref r1, .ref r2, .ref r3])), (r1, .inl (cJ, 10, .inr (.inl (vp_updL ar a x)))), (r2, .inl (cJ, 10, .inr (.inl ma))), (r3, .inl (cJ, 10, .inr (.inl mo)))]) rfl ?_
      refine g_aload_n C dX2_tellRow_49 50 rfl rfl ?_
      refine g_get C iw_X2_tellRow_X2 0 rfl rfl 1 (by decide) (by decide +kernel) rfl rfl dX2_tellRow_50 53 rfl ?_
      refine g_iload_n C dX2_tellRow_53 54 rfl rfl ?_
      refine g_lload C dX2_tellRow_54 56 rfl rfl ?_
      refine g_last C 2 1 rfl rfl a rfl (by omega) (by decide) dX2_tellRow_56 57 rfl (ws' := [(r0, .inr (6, [.ref r1, .ref r2, .ref r3])), (r1, .inl (cJ, 10, .inr (.inl (vp_updL ar a x)))), (r2, .inl (cJ, 10, .inr (.inl (vp_updL ma a y)))), (r3, .inl (cJ, 10, .inr (.inl mo)))]) rfl ?_
      refine g_aload_n C dX2_tellRow_57 58 rfl rfl ?_
      refine g_get C iw_X2_tellRow_X2 0 rfl rfl 2 (by decide) (by decide +kernel) rfl rfl dX2_tellRow_58 61 rfl ?_
      refine g_iload_n C dX2_tellRow_61 62 rfl rfl ?_
      refine g_lload C dX2_tellRow_62 64 rfl rfl ?_
      refine g_last C 3 1 rfl rfl a rfl (by omega) (by decide) dX2_tellRow_64 65 rfl (ws' := [(r0, .inr (6, [.ref r1, .ref r2, .ref r3])), (r1, .inl (cJ, 10, .inr (.inl (vp_updL ar a x)))), (r2, .inl (cJ, 10, .inr (.inl (vp_updL ma a y)))), (r3, .inl (cJ, 10, .inr (.inl (vp_updL mo a z))))]) rfl ?_
      refine g_iload C dX2_tellRow_65 67 rfl rfl ?_
      exact g_zret C hQ (Nat.le_of_ble_eq_true rfl) (Nat.le_of_ble_eq_true rfl) dX2_tellRow_67 rfl () (by simp [bI, nI_one, nI_0, c7, c19]) rfl
    · refine g_aload_n C dX2_tellRow_23 24 rfl rfl ?_
      refine g_get C iw_X2_tellRow_X2 0 rfl rfl 2 (by decide) (by decide +kernel) rfl rfl dX2_tellRow_24 27 rfl ?_
      refine g_iload_n C dX2_tellRow_27 28 rfl rfl ?_
      refine g_lald C 3 1 rfl rfl a rfl (by omega) (by decide) dX2_tellRow_28 29 rfl ?_
      refine g_lload C dX2_tellRow_29 31 rfl rfl ?_
      refine g_lc_eq C dX2_tellRow_31 32 rfl dX2_tellRow_32 39 35 (by decide) rfl (fun c31 => ?_) (fun c31 => ?_)
      · refine g_iconst (v := nI 0) C dX2_tellRow_39 40 rfl (by decide) ?_
        refine g_istore C dX2_tellRow_40 42 rfl (by decide) [1, 2, 3, 4, 5, 0] (lv' := [(0, .ref r0), (1, .int (nI a)), (2, .long x), (4, .long y), (6, .long z), (8, .int (nI 0))]) rfl ?_
        refine g_aload_n C dX2_tellRow_42 43 rfl rfl ?_
        refine g_get C iw_X2_tellRow_X2 0 rfl rfl 0 (by decide) (by decide +kernel) rfl rfl dX2_tellRow_43 46 rfl ?_
        refine g_iload_n C dX2_tellRow_46 47 rfl rfl ?_
        refine g_lload_n C dX2_tellRow_47 48 rfl rfl ?_
        refine g_last C 1 1 rfl rfl a rfl (by omega) (by decide) dX2_tellRow_48 49 rfl (ws' := [(r0, .inr (6, [.ref r1, .ref r2, .ref r3])), (r1, .inl (cJ, 10, .inr (.inl (vp_updL ar a x)))), (r2, .inl (cJ, 10, .inr (.inl ma))), (r3, .inl (cJ, 10, .inr (.inl mo)))]) rfl ?_
        refine g_aload_n C dX2_tellRow_49 50 rfl rfl ?_
        refine g_get C iw_X2_tellRow_X2 0 rfl rfl 1 (by decide) (by decide +kernel) rfl rfl dX2_tellRow_50 53 rfl ?_
        refine g_iload_n C dX2_tellRow_53 54 rfl rfl ?_
        refine g_lload C dX2_tellRow_54 56 rfl rfl ?_
        refine g_last C 2 1 rfl rfl a rfl (by omega) (by decide) dX2_tellRow_56 57 rfl (ws' := [(r0, .inr (6, [.ref r1, .ref r2, .ref r3])), (r1, .inl (cJ, 10, .inr (.inl (vp_updL ar a x)))), (r2, .inl (cJ, 10, .inr (.inl (vp_updL ma a y)))), (r3, .inl (cJ, 10, .inr (.inl mo)))]) rfl ?_
        refine g_aload_n C dX2_tellRow_57 58 rfl rfl ?_
        refine g_get C iw_X2_tellRow_X2 0 rfl rfl 2 (by decide) (by decide +kernel) rfl rfl dX2_tellRow_58 61 rfl ?_
        refine g_iload_n C dX2_tellRow_61 62 rfl rfl ?_
        refine g_lload C dX2_tellRow_62 64 rfl rfl ?_
        refine g_last C 3 1 rfl rfl a rfl (by omega) (by decide) dX2_tellRow_64 65 rfl (ws' := [(r0, .inr (6, [.ref r1, .ref r2, .ref r3])), (r1, .inl (cJ, 10, .inr (.inl (vp_updL ar a x)))), (r2, .inl (cJ, 10, .inr (.inl (vp_updL ma a y)))), (r3, .inl (cJ, 10, .inr (.inl (vp_updL mo a z))))]) rfl ?_
        refine g_iload C dX2_tellRow_65 67 rfl rfl ?_
        exact g_zret C hQ (Nat.le_of_ble_eq_true rfl) (Nat.le_of_ble_eq_true rfl) dX2_tellRow_67 rfl () (by simp [bI, nI_one, nI_0, c7, c19, c31]) rfl
      · refine g_iconst (v := nI 1) C dX2_tellRow_35 36 rfl (by decide) ?_
        refine g_goto C dX2_tellRow_36 40 (by decide) ?_
        refine g_istore C dX2_tellRow_40 42 rfl (by decide) [1, 2, 3, 4, 5, 0] (lv' := [(0, .ref r0), (1, .int (nI a)), (2, .long x), (4, .long y), (6, .long z), (8, .int (nI 1))]) rfl ?_
        refine g_aload_n C dX2_tellRow_42 43 rfl rfl ?_
        refine g_get C iw_X2_tellRow_X2 0 rfl rfl 0 (by decide) (by decide +kernel) rfl rfl dX2_tellRow_43 46 rfl ?_
        refine g_iload_n C dX2_tellRow_46 47 rfl rfl ?_
        refine g_lload_n C dX2_tellRow_47 48 rfl rfl ?_
        refine g_last C 1 1 rfl rfl a rfl (by omega) (by decide) dX2_tellRow_48 49 rfl (ws' := [(r0, .inr (6, [.ref r1, .ref r2, .ref r3])), (r1, .inl (cJ, 10, .inr (.inl (vp_updL ar a x)))), (r2, .inl (cJ, 10, .inr (.inl ma))), (r3, .inl (cJ, 10, .inr (.inl mo)))]) rfl ?_
        refine g_aload_n C dX2_tellRow_49 50 rfl rfl ?_
        refine g_get C iw_X2_tellRow_X2 0 rfl rfl 1 (by decide) (by decide +kernel) rfl rfl dX2_tellRow_50 53 rfl ?_
        refine g_iload_n C dX2_tellRow_53 54 rfl rfl ?_
        refine g_lload C dX2_tellRow_54 56 rfl rfl ?_
        refine g_last C 2 1 rfl rfl a rfl (by omega) (by decide) dX2_tellRow_56 57 rfl (ws' := [(r0, .inr (6, [.ref r1, .ref r2, .ref r3])), (r1, .inl (cJ, 10, .inr (.inl (vp_updL ar a x)))), (r2, .inl (cJ, 10, .inr (.inl (vp_updL ma a y)))), (r3, .inl (cJ, 10, .inr (.inl mo)))]) rfl ?_
        refine g_aload_n C dX2_tellRow_57 58 rfl rfl ?_
        refine g_get C iw_X2_tellRow_X2 0 rfl rfl 2 (by decide) (by decide +kernel) rfl rfl dX2_tellRow_58 61 rfl ?_
        refine g_iload_n C dX2_tellRow_61 62 rfl rfl ?_
        refine g_lload C dX2_tellRow_62 64 rfl rfl ?_
        refine g_last C 3 1 rfl rfl a rfl (by omega) (by decide) dX2_tellRow_64 65 rfl (ws' := [(r0, .inr (6, [.ref r1, .ref r2, .ref r3])), (r1, .inl (cJ, 10, .inr (.inl (vp_updL ar a x)))), (r2, .inl (cJ, 10, .inr (.inl (vp_updL ma a y)))), (r3, .inl (cJ, 10, .inr (.inl (vp_updL mo a z))))]) rfl ?_
        refine g_iload C dX2_tellRow_65 67 rfl rfl ?_
        exact g_zret C hQ (Nat.le_of_ble_eq_true rfl) (Nat.le_of_ble_eq_true rfl) dX2_tellRow_67 rfl () (by simp [bI, nI_one, nI_0, c7, c19, c31]) rfl

theorem iw_X2_willDo_X2 : ∀ w ∈ wsX20, w ∈ wsX2_willDo := by decide +kernel
set_option maxHeartbeats 4000000 in
set_option maxRecDepth 100000 in
theorem c_X2_willDo (l : Launch) (D : va_G) (cI cJ cB cZ : ClassId) (sz : Nat) (r0 : Nat) (r1 : Nat) (r2 : Nat) (r3 : Nat) (ar : Nat → Int64) (ma : Nat → Int64) (mo : Nat → Int64) (a : Nat) (x : Int64) (d : Int64) (cut : Int64) (ha : a < 10) : Met l yX2_willDo wsX2_willDo ({ frames := 0, cells := 0, slots := 0, locals := 0 }) (va_Pc [.ref r0, .int (nI a), .long x, .long d, .long cut] (pW D (TY cI cJ cB cZ) [(r0, .inr (6, [.ref r1, .ref r2, .ref r3])), (r1, .inl (cJ, 10, .inr (.inl ar))), (r2, .inl (cJ, 10, .inr (.inl ma))), (r3, .inl (cJ, 10, .inr (.inl mo)))] (fun _ => True) sz)) (va_Qi (fun (rv : Int32) (_ : Unit) => rv = bI (wdo ar ma mo x d cut a)) (qW D (TY cI cJ cB cZ) (va_A [(r0, .inr (6, [.ref r1, .ref r2, .ref r3])), (r1, .inl (cJ, 10, .inr (.inl ar))), (r2, .inl (cJ, 10, .inr (.inl ma))), (r3, .inl (cJ, 10, .inr (.inl mo)))] sz) (fun _ => [(r0, .inr (6, [.ref r1, .ref r2, .ref r3])), (r1, .inl (cJ, 10, .inr (.inl ar))), (r2, .inl (cJ, 10, .inr (.inl ma))), (r3, .inl (cJ, 10, .inr (.inl mo)))])) (va_A [(r0, .inr (6, [.ref r1, .ref r2, .ref r3])), (r1, .inl (cJ, 10, .inr (.inl ar))), (r2, .inl (cJ, 10, .inr (.inl ma))), (r3, .inl (cJ, 10, .inr (.inl mo)))] sz)) 0 0 (va_A [(r0, .inr (6, [.ref r1, .ref r2, .ref r3])), (r1, .inl (cJ, 10, .inr (.inl ar))), (r2, .inl (cJ, 10, .inr (.inl ma))), (r3, .inl (cJ, 10, .inr (.inl mo)))] sz) := by
  refine gx_met RX2 rfl (by decide) rfl (Nat.le_of_ble_eq_true rfl) ?_
  intro X hl hDx hAx C hQ hXP hsz hin
  subst hl; subst hDx
  rw [← hAx] at hQ
  refine g_lv [0, 1, 2, 3, 4] (lv' := [(0, .ref r0), (1, .int (nI a)), (2, .long x), (4, .long d), (6, .long cut)]) rfl ?_
  refine g_aload_n C dX2_willDo_0 1 rfl rfl ?_
  refine g_get C iw_X2_willDo_X2 0 rfl rfl 0 (by decide) (by decide +kernel) rfl rfl dX2_willDo_1 4 rfl ?_
  refine g_iload_n C dX2_willDo_4 5 rfl rfl ?_
  refine g_lald C 1 1 rfl rfl a rfl (by omega) (by decide) dX2_willDo_5 6 rfl ?_
  refine g_lconst (v := 0) C dX2_willDo_6 7 rfl (by decide) ?_
  refine g_lc_le C dX2_willDo_7 8 rfl dX2_willDo_8 47 11 (by decide) rfl (fun c7 => ?_) (fun c7 => ?_)
  · refine g_iconst (v := nI 0) C dX2_willDo_47 48 rfl (by decide) ?_
    exact g_zret C hQ (Nat.le_of_ble_eq_true rfl) (Nat.le_of_ble_eq_true rfl) dX2_willDo_48 rfl () (by simp [bI, nI_one, nI_0, wdo, c7]) rfl
  · refine g_aload_n C dX2_willDo_11 12 rfl rfl ?_
    refine g_get C iw_X2_willDo_X2 0 rfl rfl 1 (by decide) (by decide +kernel) rfl rfl dX2_willDo_12 15 rfl ?_
    refine g_iload_n C dX2_willDo_15 16 rfl rfl ?_
    refine g_lald C 2 1 rfl rfl a rfl (by omega) (by decide) dX2_willDo_16 17 rfl ?_
    refine g_lload_n C dX2_willDo_17 18 rfl rfl ?_
    refine g_lc_lt C dX2_willDo_18 19 rfl dX2_willDo_19 47 22 (by decide) rfl (fun c18 => ?_) (fun c18 => ?_)
    · refine g_iconst (v := nI 0) C dX2_willDo_47 48 rfl (by decide) ?_
      exact g_zret C hQ (Nat.le_of_ble_eq_true rfl) (Nat.le_of_ble_eq_true rfl) dX2_willDo_48 rfl () (by simp [bI, nI_one, nI_0, wdo, c7, c18]) rfl
    · refine g_lload_n C dX2_willDo_22 23 rfl rfl ?_
      refine g_aload_n C dX2_willDo_23 24 rfl rfl ?_
      refine g_get C iw_X2_willDo_X2 0 rfl rfl 2 (by decide) (by decide +kernel) rfl rfl dX2_willDo_24 27 rfl ?_
      refine g_iload_n C dX2_willDo_27 28 rfl rfl ?_
      refine g_lald C 3 1 rfl rfl a rfl (by omega) (by decide) dX2_willDo_28 29 rfl ?_
      refine g_lmul C dX2_willDo_29 30 rfl ?_
      refine g_lload C dX2_willDo_30 32 rfl rfl ?_
      refine g_lmul C dX2_willDo_32 33 rfl ?_
      refine g_lload C dX2_willDo_33 35 rfl rfl ?_
      refine g_ldc2 C (1000000000) (by decide +kernel) dX2_willDo_35 38 rfl ?_
      refine g_lmul C dX2_willDo_38 39 rfl ?_
      refine g_lc_gt C dX2_willDo_39 40 rfl dX2_willDo_40 47 43 (by decide) rfl (fun c39 => ?_) (fun c39 => ?_)
      · refine g_iconst (v := nI 0) C dX2_willDo_47 48 rfl (by decide) ?_
        exact g_zret C hQ (Nat.le_of_ble_eq_true rfl) (Nat.le_of_ble_eq_true rfl) dX2_willDo_48 rfl () (by simp [bI, nI_one, nI_0, wdo, c7, c18, c39]) rfl
      · refine g_iconst (v := nI 1) C dX2_willDo_43 44 rfl (by decide) ?_
        refine g_goto C dX2_willDo_44 48 (by decide) ?_
        exact g_zret C hQ (Nat.le_of_ble_eq_true rfl) (Nat.le_of_ble_eq_true rfl) dX2_willDo_48 rfl () (by simp [bI, nI_one, nI_0, wdo, c7, c18, c39]) rfl

theorem iw_X2_leastThatWillDo_X2 : ∀ w ∈ wsX20, w ∈ wsX2_leastThatWillDo := by decide +kernel
set_option maxHeartbeats 4000000 in
set_option maxRecDepth 100000 in
theorem c_X2_leastThatWillDo (l : Launch) (D : va_G) (cI cJ cB cZ : ClassId) (sz : Nat) (r0 : Nat) (r1 : Nat) (r2 : Nat) (r3 : Nat) (ar : Nat → Int64) (ma : Nat → Int64) (mo : Nat → Int64) (x : Int64) (d : Int64) (cut : Int64)  : Met l yX2_leastThatWillDo wsX2_leastThatWillDo ({ frames := 1, cells := 0, slots := 0, locals := 27 }) (va_Pc [.ref r0, .long x, .long d, .long cut] (pW D (TY cI cJ cB cZ) [(r0, .inr (6, [.ref r1, .ref r2, .ref r3])), (r1, .inl (cJ, 10, .inr (.inl ar))), (r2, .inl (cJ, 10, .inr (.inl ma))), (r3, .inl (cJ, 10, .inr (.inl mo)))] (fun _ => True) sz)) (va_Qi (fun (rv : Int32) (_ : Unit) => rv = (ltw ar (wdo ar ma mo x d cut) 10).1) (qW D (TY cI cJ cB cZ) (va_A [(r0, .inr (6, [.ref r1, .ref r2, .ref r3])), (r1, .inl (cJ, 10, .inr (.inl ar))), (r2, .inl (cJ, 10, .inr (.inl ma))), (r3, .inl (cJ, 10, .inr (.inl mo)))] sz) (fun _ => [(r0, .inr (6, [.ref r1, .ref r2, .ref r3])), (r1, .inl (cJ, 10, .inr (.inl ar))), (r2, .inl (cJ, 10, .inr (.inl ma))), (r3, .inl (cJ, 10, .inr (.inl mo)))])) (va_A [(r0, .inr (6, [.ref r1, .ref r2, .ref r3])), (r1, .inl (cJ, 10, .inr (.inl ar))), (r2, .inl (cJ, 10, .inr (.inl ma))), (r3, .inl (cJ, 10, .inr (.inl mo)))] sz)) 0 0 (va_A [(r0, .inr (6, [.ref r1, .ref r2, .ref r3])), (r1, .inl (cJ, 10, .inr (.inl ar))), (r2, .inl (cJ, 10, .inr (.inl ma))), (r3, .inl (cJ, 10, .inr (.inl mo)))] sz) := by
  refine gx_met RX2 rfl (by decide) rfl (Nat.le_of_ble_eq_true rfl) ?_
  intro X hl hDx hAx C hQ hXP hsz hin
  subst hl; subst hDx
  rw [← hAx] at hQ
  refine g_lv [0, 1, 2, 3] (lv' := [(0, .ref r0), (1, .long x), (3, .long d), (5, .long cut)]) rfl ?_
  refine g_iconst (v := -1) C dX2_leastThatWillDo_0 1 rfl (by decide) ?_
  refine g_istore C dX2_leastThatWillDo_1 3 rfl (by decide) [1, 2, 3, 4, 0] (lv' := [(0, .ref r0), (1, .long x), (3, .long d), (5, .long cut), (7, .int (-1))]) rfl ?_
  refine g_ldc2 C (1000001) (by decide +kernel) dX2_leastThatWillDo_3 6 rfl ?_
  refine g_lstore C dX2_leastThatWillDo_6 8 rfl (by decide) [1, 2, 3, 4, 5, 0] (lv' := [(0, .ref r0), (1, .long x), (3, .long d), (5, .long cut), (7, .int (-1)), (8, .long (1000001))]) rfl ?_
  refine g_iconst (v := nI 0) C dX2_leastThatWillDo_8 9 rfl (by decide) ?_
  refine g_istore C dX2_leastThatWillDo_9 11 rfl (by decide) [1, 2, 3, 4, 5, 6, 0] (lv' := [(0, .ref r0), (1, .long x), (3, .long d), (5, .long cut), (7, .int (-1)), (8, .long (1000001)), (10, .int (nI 0))]) rfl ?_
  have hloop : ∀ (fuel i : Nat), i ≤ 10 → 10 + 1 ≤ i + fuel → gx X 0 0 [(r0, .inr (6, [.ref r1, .ref r2, .ref r3])), (r1, .inl (cJ, 10, .inr (.inl ar))), (r2, .inl (cJ, 10, .inr (.inl ma))), (r3, .inl (cJ, 10, .inr (.inl mo)))] 11 [(0, .ref r0), (1, .long x), (3, .long d), (5, .long cut), (7, .int ((ltw ar (wdo ar ma mo x d cut) i).1)), (8, .long ((ltw ar (wdo ar ma mo x d cut) i).2)), (10, .int (nI i))] [] := by
    intro fuel
    induction fuel with
    | zero => intro i h1 h2; exact absurd h2 (by omega)
    | succ fuel hloop_ih =>
      intro i hle hfu
      refine g_iload C dX2_leastThatWillDo_11 13 rfl rfl ?_
      refine g_bipush (v := nI 10) C dX2_leastThatWillDo_13 15 rfl (by decide) ?_
      refine g_icmp_ge_n C dX2_leastThatWillDo_15 63 18 (by decide) rfl (by omega) (by omega) (fun c15 => ?_) (fun c15 => ?_)
      · have e_i : 10 = i := by omega
        subst e_i
        refine g_iload C dX2_leastThatWillDo_63 65 rfl rfl ?_
        exact g_iret C hQ (Nat.le_of_ble_eq_true rfl) (Nat.le_of_ble_eq_true rfl) dX2_leastThatWillDo_65 () rfl rfl
      · refine g_aload_n C dX2_leastThatWillDo_18 19 rfl rfl ?_
        refine g_get C iw_X2_leastThatWillDo_X2 0 rfl rfl 0 (by decide) (by decide +kernel) rfl rfl dX2_leastThatWillDo_19 22 rfl ?_
        refine g_iload C dX2_leastThatWillDo_22 24 rfl rfl ?_
        refine g_lald C 1 1 rfl rfl i rfl (by omega) (by decide) dX2_leastThatWillDo_24 25 rfl ?_
        refine g_lload C dX2_leastThatWillDo_25 27 rfl rfl ?_
        refine g_lc_ge C dX2_leastThatWillDo_27 28 rfl dX2_leastThatWillDo_28 57 31 (by decide) rfl (fun c27 => ?_) (fun c27 => ?_)
        · refine g_iinc (v := nI (i + 1)) C dX2_leastThatWillDo_57 60 rfl rfl (nI_add i 1) (by decide) [1, 2, 3, 4, 5, 6, 0] (lv' := [(0, .ref r0), (1, .long x), (3, .long d), (5, .long cut), (7, .int ((ltw ar (wdo ar ma mo x d cut) i).1)), (8, .long ((ltw ar (wdo ar ma mo x d cut) i).2)), (10, .int (nI (i + 1)))]) rfl ?_
          refine g_goto C dX2_leastThatWillDo_60 11 (by decide) ?_
          have e9 : ltw ar (wdo ar ma mo x d cut) (i + 1) = ltw ar (wdo ar ma mo x d cut) i := by rw [ltw, if_neg (fun q => Int64.not_lt.mpr c27 q.1)]
          rw [show (ltw ar (wdo ar ma mo x d cut) i).1 = (ltw ar (wdo ar ma mo x d cut) (i + 1)).1 from by rw [e9], show (ltw ar (wdo ar ma mo x d cut) i).2 = (ltw ar (wdo ar ma mo x d cut) (i + 1)).2 from by rw [e9]]
          exact hloop_ih (i + 1) (by omega) (by omega)
        · refine g_aload_n C dX2_leastThatWillDo_31 32 rfl rfl ?_
          refine g_iload C dX2_leastThatWillDo_32 34 rfl rfl ?_
          refine g_lload_n C dX2_leastThatWillDo_34 35 rfl rfl ?_
          refine g_lload_n C dX2_leastThatWillDo_35 36 rfl rfl ?_
          refine g_lload C dX2_leastThatWillDo_36 38 rfl rfl ?_
          refine g_callVi (ci := 6) (q0 := 0) (As := [.int (nI i), .long x, .long d, .long cut]) (rest := []) (wr := []) (ws' := fun (_ : Unit) => [(r0, .inr (6, [.ref r1, .ref r2, .ref r3])), (r1, .inl (cJ, 10, .inr (.inl ar))), (r2, .inl (cJ, 10, .inr (.inl ma))), (r3, .inl (cJ, 10, .inr (.inl mo)))]) C (fun sz => c_X2_willDo _ _ cI cJ cB cZ sz r0 r1 r2 r3 ar ma mo i x d cut (by omega)) gx_XP0 4 gX2_leastThatWillDo_X2_willDo rfl rfl rfl (by decide +kernel) ⟨Nat.le_of_ble_eq_true rfl, Nat.le_of_ble_eq_true rfl⟩ rfl rfl [0, 1, 2, 3] [] [0, 1, 2, 3] rfl (by decide) rfl (by decide) (by decide) (fun _ => rfl) (by decide) rfl rfl (Nat.le_of_ble_eq_true rfl) dX2_leastThatWillDo_38 ⟨Nat.le_of_ble_eq_true rfl, Nat.le_of_ble_eq_true rfl⟩ 41 rfl (eqk ?_)
          refine g_if_eq_b C dX2_leastThatWillDo_41 57 44 (by decide) rfl (fun c41 => ?_) (fun c41 => ?_)
          · refine g_iinc (v := nI (i + 1)) C dX2_leastThatWillDo_57 60 rfl rfl (nI_add i 1) (by decide) [1, 2, 3, 4, 5, 6, 0] (lv' := [(0, .ref r0), (1, .long x), (3, .long d), (5, .long cut), (7, .int ((ltw ar (wdo ar ma mo x d cut) i).1)), (8, .long ((ltw ar (wdo ar ma mo x d cut) i).2)), (10, .int (nI (i + 1)))]) rfl ?_
            refine g_goto C dX2_leastThatWillDo_60 11 (by decide) ?_
            have e9 : ltw ar (wdo ar ma mo x d cut) (i + 1) = ltw ar (wdo ar ma mo x d cut) i := by rw [ltw, if_neg (fun q => by rw [q.2] at c41; cases c41)]
            rw [show (ltw ar (wdo ar ma mo x d cut) i).1 = (ltw ar (wdo ar ma mo x d cut) (i + 1)).1 from by rw [e9], show (ltw ar (wdo ar ma mo x d cut) i).2 = (ltw ar (wdo ar ma mo x d cut) (i + 1)).2 from by rw [e9]]
            exact hloop_ih (i + 1) (by omega) (by omega)
          · refine g_iload C dX2_leastThatWillDo_44 46 rfl rfl ?_
            refine g_istore C dX2_leastThatWillDo_46 48 rfl (by decide) [1, 2, 3, 4, 0, 5, 6] (lv' := [(0, .ref r0), (1, .long x), (3, .long d), (5, .long cut), (7, .int (nI i)), (8, .long ((ltw ar (wdo ar ma mo x d cut) i).2)), (10, .int (nI i))]) rfl ?_
            refine g_aload_n C dX2_leastThatWillDo_48 49 rfl rfl ?_
            refine g_get C iw_X2_leastThatWillDo_X2 0 rfl rfl 0 (by decide) (by decide +kernel) rfl rfl dX2_leastThatWillDo_49 52 rfl ?_
            refine g_iload C dX2_leastThatWillDo_52 54 rfl rfl ?_
            refine g_lald C 1 1 rfl rfl i rfl (by omega) (by decide) dX2_leastThatWillDo_54 55 rfl ?_
            refine g_lstore C dX2_leastThatWillDo_55 57 rfl (by decide) [1, 2, 3, 4, 5, 0, 6] (lv' := [(0, .ref r0), (1, .long x), (3, .long d), (5, .long cut), (7, .int (nI i)), (8, .long (ar i)), (10, .int (nI i))]) rfl ?_
            refine g_iinc (v := nI (i + 1)) C dX2_leastThatWillDo_57 60 rfl rfl (nI_add i 1) (by decide) [1, 2, 3, 4, 5, 6, 0] (lv' := [(0, .ref r0), (1, .long x), (3, .long d), (5, .long cut), (7, .int (nI i)), (8, .long (ar i)), (10, .int (nI (i + 1)))]) rfl ?_
            refine g_goto C dX2_leastThatWillDo_60 11 (by decide) ?_
            have e9 : ltw ar (wdo ar ma mo x d cut) (i + 1) = (nI i, ar i) := by rw [ltw, if_pos ⟨Int64.not_le.mp c27, c41⟩]
            rw [show nI i = (ltw ar (wdo ar ma mo x d cut) (i + 1)).1 from by rw [e9], show ar i = (ltw ar (wdo ar ma mo x d cut) (i + 1)).2 from by rw [e9]]
            exact hloop_ih (i + 1) (by omega) (by omega)
  exact hloop (10 + 1) 0 (by omega) (by omega)

theorem iw_X2_init_X2 : ∀ w ∈ wsX20, w ∈ wsX2_init := by decide +kernel
set_option maxHeartbeats 4000000 in
set_option maxRecDepth 100000 in
theorem c_X2_init (l : Launch) (D : va_G) (cI cJ cB cZ : ClassId) (sz : Nat) (r0 : Nat)  : Met l yX2_init wsX2_init ({ frames := 1, cells := 3, slots := 30, locals := 12 }) (va_Pc [.ref r0] (pW D (TY cI cJ cB cZ) [(r0, .inr (6, [.null, .null, .null]))] (fun _ => True) sz)) (va_Qv (fun (u : Nat × Nat × Nat) => True) (qW D (TY cI cJ cB cZ) (va_A [(r0, .inr (6, [.null, .null, .null]))] sz) (fun u => [(r0, .inr (6, [.ref u.1, .ref u.2.1, .ref u.2.2])), (u.1, .inl (cJ, 10, .inr (.inl (fun _ => 0)))), (u.2.1, .inl (cJ, 10, .inr (.inl (fun _ => 0)))), (u.2.2, .inl (cJ, 10, .inr (.inl (fun _ => 0))))])) (va_A [(r0, .inr (6, [.null, .null, .null]))] sz)) 3 30 (va_A [(r0, .inr (6, [.null, .null, .null]))] sz) := by
  refine gx_met RX2 rfl (by decide) rfl (Nat.le_of_ble_eq_true rfl) ?_
  intro X hl hDx hAx C hQ hXP hsz hin
  subst hl; subst hDx
  rw [← hAx] at hQ
  refine g_lv [0] (lv' := [(0, .ref r0)]) rfl ?_
  refine g_aload_n C dX2_init_0 1 rfl rfl ?_
  refine g_objInit C (by decide +kernel) (by decide +kernel) (by first | exact List.mem_of_getElem? (i := 3) rfl | exact List.mem_of_getElem? (i := 2) rfl | exact List.mem_of_getElem? (i := 4) rfl | exact List.mem_of_getElem? (i := 5) rfl) dX2_init_1 4 rfl (Nat.le_of_ble_eq_true rfl) (Nat.le_of_ble_eq_true rfl) ?_
  refine g_aload_n C dX2_init_4 5 rfl rfl ?_
  refine g_bipush (v := nI 10) C dX2_init_5 7 rfl (by decide) ?_
  refine g_newa_long C 1 rfl (by decide) (by decide +kernel) dX2_init_7 9 rfl (Nat.le_of_ble_eq_true rfl) (Nat.le_of_ble_eq_true rfl) (fun q7 => ?_)
  refine g_ws (ws' := [(r0, .inr (6, [.null, .null, .null])), (q7, .inl (cJ, 10, .inr (.inl (fun _ => 0))))]) rfl ?_
  refine g_putF C (hI := hin rfl) (ty := .array .long) iw_X2_init_X2 tyX2 tyX2_ok nmX2 0 rfl rfl 0 (by decide) (by decide +kernel) rfl rfl rfl (by decide +kernel) rfl rfl (Nat.le_of_ble_eq_true rfl) dX2_init_9 12 rfl (ws' := [(r0, .inr (6, [.ref q7, .null, .null])), (q7, .inl (cJ, 10, .inr (.inl (fun _ => 0))))]) rfl ?_
  refine g_aload_n C dX2_init_12 13 rfl rfl ?_
  refine g_bipush (v := nI 10) C dX2_init_13 15 rfl (by decide) ?_
  refine g_newa_long C 1 rfl (by decide) (by decide +kernel) dX2_init_15 17 rfl (Nat.le_of_ble_eq_true rfl) (Nat.le_of_ble_eq_true rfl) (fun q15 => ?_)
  refine g_ws (ws' := [(r0, .inr (6, [.ref q7, .null, .null])), (q7, .inl (cJ, 10, .inr (.inl (fun _ => 0)))), (q15, .inl (cJ, 10, .inr (.inl (fun _ => 0))))]) rfl ?_
  refine g_putF C (hI := hin rfl) (ty := .array .long) iw_X2_init_X2 tyX2 tyX2_ok nmX2 0 rfl rfl 1 (by decide) (by decide +kernel) rfl rfl rfl (by decide +kernel) rfl rfl (Nat.le_of_ble_eq_true rfl) dX2_init_17 20 rfl (ws' := [(r0, .inr (6, [.ref q7, .ref q15, .null])), (q7, .inl (cJ, 10, .inr (.inl (fun _ => 0)))), (q15, .inl (cJ, 10, .inr (.inl (fun _ => 0))))]) rfl ?_
  refine g_aload_n C dX2_init_20 21 rfl rfl ?_
  refine g_bipush (v := nI 10) C dX2_init_21 23 rfl (by decide) ?_
  refine g_newa_long C 1 rfl (by decide) (by decide +kernel) dX2_init_23 25 rfl (Nat.le_of_ble_eq_true rfl) (Nat.le_of_ble_eq_true rfl) (fun q23 => ?_)
  refine g_ws (ws' := [(r0, .inr (6, [.ref q7, .ref q15, .null])), (q7, .inl (cJ, 10, .inr (.inl (fun _ => 0)))), (q15, .inl (cJ, 10, .inr (.inl (fun _ => 0)))), (q23, .inl (cJ, 10, .inr (.inl (fun _ => 0))))]) rfl ?_
  refine g_putF C (hI := hin rfl) (ty := .array .long) iw_X2_init_X2 tyX2 tyX2_ok nmX2 0 rfl rfl 2 (by decide) (by decide +kernel) rfl rfl rfl (by decide +kernel) rfl rfl (Nat.le_of_ble_eq_true rfl) dX2_init_25 28 rfl (ws' := [(r0, .inr (6, [.ref q7, .ref q15, .ref q23])), (q7, .inl (cJ, 10, .inr (.inl (fun _ => 0)))), (q15, .inl (cJ, 10, .inr (.inl (fun _ => 0)))), (q23, .inl (cJ, 10, .inr (.inl (fun _ => 0))))]) rfl ?_
  exact g_vret C hQ (Nat.le_of_ble_eq_true rfl) (Nat.le_of_ble_eq_true rfl) dX2_init_28 (q7, q15, q23) trivial (by first | (dsimp only; done) | rfl)
