theorem iw_X7_lengthOf_X7 : ∀ w ∈ wsX70, w ∈ wsX7_lengthOf := by decide +kernel
set_option maxHeartbeats 4000000 in
set_option maxRecDepth 100000 in
theorem c_X7_lengthOf (l : Launch) (D : va_G) (cI cJ cB cZ : ClassId) (sz : Nat) (g0 : Nat) (g1 : Nat) (g2 : Nat) (g3 : Nat) (g4 : Nat) (g5 : Nat) (g6 : Nat) (g7 : Nat) (g8 : Nat) (g9 : Nat) (g10 : Nat) (g11 : Nat) (g12 : Nat) (g13 : Nat) (g14 : Nat) (g15 : Nat) (g16 : Nat) (g17 : Nat) (g18 : Nat) (g19 : Nat) (g20 : Nat) (g21 : Nat) (g22 : Nat) (th : Nat) (mn : Nat) (mb : Nat) (mw : Nat) (mz : Nat) (mv : Nat) (my : Nat) (msa : Int64) (msb : Int64) (wt : Int32) (wr : Int32) (fo : Int32) (fa : Nat → Int64) (qA : Nat → Nat) (qB : Nat → Nat) (i : Nat) (hi : i < 24) (hA : qA i < 256) (hB : qB i < 256) (hsb : ¬ msb = 0) : Met l yX7_lengthOf wsX7_lengthOf ({ frames := 0, cells := 0, slots := 0, locals := 0 }) (va_Pc [.ref g0, .int (nI i)] (pW D (TY cI cJ cB cZ) [(g0, .inr (11, [.int (nI th), .int (nI mn), .ref g1, .ref g2, .int (nI mb), .ref g3, .ref g4, .ref g5, .int (nI mw), .ref g6, .ref g7, .ref g8, .ref g9, .ref g10, .long msa, .long msb, .ref g11, .ref g12, .ref g13, .ref g14, .ref g15, .int (nI mz), .ref g16, .ref g17, .ref g18, .int (nI mv), .ref g19, .int (nI my), .ref g20, .ref g21, .ref g22, .int wt, .int wr, .int fo])), (g2, .inl (cJ, 256, .inr (.inl fa))), (g6, .inl (cI, 24, .inl (fun jj => nI (qA jj)))), (g7, .inl (cI, 24, .inl (fun jj => nI (qB jj))))] (fun _ => True) sz)) (va_Ql (fun (rv : Int64) (_ : Unit) => rv = lenO fa qA qB msa msb i) (qW D (TY cI cJ cB cZ) (va_A [(g0, .inr (11, [.int (nI th), .int (nI mn), .ref g1, .ref g2, .int (nI mb), .ref g3, .ref g4, .ref g5, .int (nI mw), .ref g6, .ref g7, .ref g8, .ref g9, .ref g10, .long msa, .long msb, .ref g11, .ref g12, .ref g13, .ref g14, .ref g15, .int (nI mz), .ref g16, .ref g17, .ref g18, .int (nI mv), .ref g19, .int (nI my), .ref g20, .ref g21, .ref g22, .int wt, .int wr, .int fo])), (g2, .inl (cJ, 256, .inr (.inl fa))), (g6, .inl (cI, 24, .inl (fun jj => nI (qA jj)))), (g7, .inl (cI, 24, .inl (fun jj => nI (qB jj))))] sz) (fun _ => [(g0, .inr (11, [.int (nI th), .int (nI mn), .ref g1, .ref g2, .int (nI mb), .ref g3, .ref g4, .ref g5, .int (nI mw), .ref g6, .ref g7, .ref g8, .ref g9, .ref g10, .long msa, .long msb, .ref g11, .ref g12, .ref g13, .ref g14, .ref g15, .int (nI mz), .ref g16, .ref g17, .ref g18, .int (nI mv), .ref g19, .int (nI my), .ref g20, .ref g21, .ref g22, .int wt, .int wr, .int fo])), (g2, .inl (cJ, 256, .inr (.inl fa))), (g6, .inl (cI, 24, .inl (fun jj => nI (qA jj)))), (g7, .inl (cI, 24, .inl (fun jj => nI (qB jj))))])) (va_A [(g0, .inr (11, [.int (nI th), .int (nI mn), .ref g1, .ref g2, .int (nI mb), .ref g3, .ref g4, .ref g5, .int (nI mw), .ref g6, .ref g7, .ref g8, .ref g9, .ref g10, .long msa, .long msb, .ref g11, .ref g12, .ref g13, .ref g14, .ref g15, .int (nI mz), .ref g16, .ref g17, .ref g18, .int (nI mv), .ref g19, .int (nI my), .ref g20, .ref g21, .ref g22, .int wt, .int wr, .int fo])), (g2, .inl (cJ, 256, .inr (.inl fa))), (g6, .inl (cI, 24, .inl (fun jj => nI (qA jj)))), (g7, .inl (cI, 24, .inl (fun jj => nI (qB jj))))] sz)) 0 0 (va_A [(g0, .inr (11, [.int (nI th), .int (nI mn), .ref g1, .ref g2, .int (nI mb), .ref g3, .ref g4, .ref g5, .int (nI mw), .ref g6, .ref g7, .ref g8, .ref g9, .ref g10, .long msa, .long msb, .ref g11, .ref g12, .ref g13, .ref g14, .ref g15, .int (nI mz), .ref g16, .ref g17, .ref g18, .int (nI mv), .ref g19, .int (nI my), .ref g20, .ref g21, .ref g22, .int wt, .int wr, .int fo])), (g2, .inl (cJ, 256, .inr (.inl fa))), (g6, .inl (cI, 24, .inl (fun jj => nI (qA jj)))), (g7, .inl (cI, 24, .inl (fun jj => nI (qB jj))))] sz) := by
  refine gx_met RX7 rfl (by decide) rfl (Nat.le_of_ble_eq_true rfl) ?_
  intro X hl hDx hAx C hQ hXP hsz hin
  subst hl; subst hDx
  rw [← hAx] at hQ
  refine g_lv [0, 1] (lv' := [(0, .ref g0), (1, .int (nI i))]) rfl ?_
  refine g_aload_n C dX7_lengthOf_0 1 rfl rfl ?_
  refine g_get C iw_X7_lengthOf_X7 0 rfl rfl 3 (by decide) (by decide +kernel) rfl rfl dX7_lengthOf_1 4 rfl ?_
  refine g_bipush (v := nI 16) C dX7_lengthOf_4 6 rfl (by decide) ?_
  refine g_aload_n C dX7_lengthOf_6 7 rfl rfl ?_
  refine g_get C iw_X7_lengthOf_X7 0 rfl rfl 9 (by decide) (by decide +kernel) rfl rfl dX7_lengthOf_7 10 rfl ?_
  refine g_iload_n C dX7_lengthOf_10 11 rfl rfl ?_
  refine g_iald C 2 0 rfl rfl i rfl (by omega) (by decide) dX7_lengthOf_11 12 rfl ?_
  refine g_bipush (v := nI 16) C dX7_lengthOf_12 14 rfl (by decide) ?_
  refine g_idivn C dX7_lengthOf_14 15 rfl (by omega) (by omega) (by omega) ?_
  refine g_imuln C dX7_lengthOf_15 16 rfl ?_
  refine g_aload_n C dX7_lengthOf_16 17 rfl rfl ?_
  refine g_get C iw_X7_lengthOf_X7 0 rfl rfl 10 (by decide) (by decide +kernel) rfl rfl dX7_lengthOf_17 20 rfl ?_
  refine g_iload_n C dX7_lengthOf_20 21 rfl rfl ?_
  refine g_iald C 3 0 rfl rfl i rfl (by omega) (by decide) dX7_lengthOf_21 22 rfl ?_
  refine g_bipush (v := nI 16) C dX7_lengthOf_22 24 rfl (by decide) ?_
  refine g_idivn C dX7_lengthOf_24 25 rfl (by omega) (by omega) (by omega) ?_
  refine g_iaddn C dX7_lengthOf_25 26 rfl ?_
  refine g_lald C 1 1 rfl rfl ((16 * ((qA i) / 16)) + ((qB i) / 16)) rfl (by omega) (by decide) dX7_lengthOf_26 27 rfl ?_
  refine g_lstore_n C dX7_lengthOf_27 28 rfl (by decide) [1, 2, 0] (lv' := [(0, .ref g0), (1, .int (nI i)), (2, .long (fa ((16 * ((qA i) / 16)) + ((qB i) / 16))))]) rfl ?_
  refine g_lload_n C dX7_lengthOf_28 29 rfl rfl ?_
  refine g_lconst (v := 0) C dX7_lengthOf_29 30 rfl (by decide) ?_
  refine g_lc_ge C dX7_lengthOf_30 31 rfl dX7_lengthOf_31 40 34 (by decide) rfl (fun c30 => ?_) (fun c30 => ?_)
  · refine g_lload_n C dX7_lengthOf_40 41 rfl rfl ?_
    refine g_lload_n C dX7_lengthOf_41 42 rfl rfl ?_
    refine g_aload_n C dX7_lengthOf_42 43 rfl rfl ?_
    refine g_get C iw_X7_lengthOf_X7 0 rfl rfl 14 (by decide) (by decide +kernel) rfl rfl dX7_lengthOf_43 46 rfl ?_
    refine g_lmul C dX7_lengthOf_46 47 rfl ?_
    refine g_aload_n C dX7_lengthOf_47 48 rfl rfl ?_
    refine g_get C iw_X7_lengthOf_X7 0 rfl rfl 15 (by decide) (by decide +kernel) rfl rfl dX7_lengthOf_48 51 rfl ?_
    refine g_ladd C dX7_lengthOf_51 52 rfl ?_
    refine g_lconst (v := 1) C dX7_lengthOf_52 53 rfl (by decide) ?_
    refine g_lsub C dX7_lengthOf_53 54 rfl ?_
    refine g_aload_n C dX7_lengthOf_54 55 rfl rfl ?_
    refine g_get C iw_X7_lengthOf_X7 0 rfl rfl 15 (by decide) (by decide +kernel) rfl rfl dX7_lengthOf_55 58 rfl ?_
    refine g_ldiv C dX7_lengthOf_58 59 rfl hsb ?_
    refine g_ladd C dX7_lengthOf_59 60 rfl ?_
    exact g_lret C hQ (Nat.le_of_ble_eq_true rfl) (Nat.le_of_ble_eq_true rfl) dX7_lengthOf_60 () (by rw [lenO, if_pos c30]) rfl
  · refine g_ldc2 C (-1) (by decide +kernel) dX7_lengthOf_34 37 rfl ?_
    refine g_goto C dX7_lengthOf_37 60 (by decide) ?_
    exact g_lret C hQ (Nat.le_of_ble_eq_true rfl) (Nat.le_of_ble_eq_true rfl) dX7_lengthOf_60 () (by rw [lenO, if_neg c30]) rfl
