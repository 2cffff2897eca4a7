theorem iw_X7_meet_X7 : ∀ w ∈ wsX70, w ∈ wsX7_meet := by decide +kernel
set_option maxHeartbeats 4000000 in
set_option maxRecDepth 100000 in
theorem c_X7_meet (l : Launch) (D : va_G) (cI cJ cB cZ : ClassId) (sz : Nat) (g0 : Nat) (g1 : Nat) (g2 : Nat) (g3 : Nat) (g4 : Nat) (g5 : Nat) (g6 : Nat) (g7 : Nat) (g8 : Nat) (g9 : Nat) (g10 : Nat) (g11 : Nat) (g12 : Nat) (g13 : Nat) (g14 : Nat) (g15 : Nat) (g16 : Nat) (g17 : Nat) (g18 : Nat) (g19 : Nat) (g20 : Nat) (g21 : Nat) (g22 : Nat) (th : Nat) (mn : Nat) (mb : Nat) (mw : Nat) (mz : Nat) (mv : Nat) (my : Nat) (msa : Int64) (msb : Int64) (wt : Int32) (wr : Int32) (fo : Int32) (qA : Nat → Nat) (qB : Nat → Nat) (v : Nat) (w : Nat) (hv : v < 24) (hw : w < 24) (h1 : qA v < 256) (h2 : qB v < 256) (h3 : qA w < 256) (h4 : qB w < 256) : Met l yX7_meet wsX7_meet ({ frames := 0, cells := 0, slots := 0, locals := 0 }) (va_Pc [.ref g0, .int (nI v), .int (nI w)] (pW D (TY cI cJ cB cZ) [(g0, .inr (11, [.int (nI th), .int (nI mn), .ref g1, .ref g2, .int (nI mb), .ref g3, .ref g4, .ref g5, .int (nI mw), .ref g6, .ref g7, .ref g8, .ref g9, .ref g10, .long msa, .long msb, .ref g11, .ref g12, .ref g13, .ref g14, .ref g15, .int (nI mz), .ref g16, .ref g17, .ref g18, .int (nI mv), .ref g19, .int (nI my), .ref g20, .ref g21, .ref g22, .int wt, .int wr, .int fo])), (g6, .inl (cI, 24, .inl (fun jj => nI (qA jj)))), (g7, .inl (cI, 24, .inl (fun jj => nI (qB jj))))] (fun _ => True) sz)) (va_Qi (fun (rv : Int32) (_ : Unit) => rv = bI (mee qA qB v w)) (qW D (TY cI cJ cB cZ) (va_A [(g0, .inr (11, [.int (nI th), .int (nI mn), .ref g1, .ref g2, .int (nI mb), .ref g3, .ref g4, .ref g5, .int (nI mw), .ref g6, .ref g7, .ref g8, .ref g9, .ref g10, .long msa, .long msb, .ref g11, .ref g12, .ref g13, .ref g14, .ref g15, .int (nI mz), .ref g16, .ref g17, .ref g18, .int (nI mv), .ref g19, .int (nI my), .ref g20, .ref g21, .ref g22, .int wt, .int wr, .int fo])), (g6, .inl (cI, 24, .inl (fun jj => nI (qA jj)))), (g7, .inl (cI, 24, .inl (fun jj => nI (qB jj))))] sz) (fun _ => [(g0, .inr (11, [.int (nI th), .int (nI mn), .ref g1, .ref g2, .int (nI mb), .ref g3, .ref g4, .ref g5, .int (nI mw), .ref g6, .ref g7, .ref g8, .ref g9, .ref g10, .long msa, .long msb, .ref g11, .ref g12, .ref g13, .ref g14, .ref g15, .int (nI mz), .ref g16, .ref g17, .ref g18, .int (nI mv), .ref g19, .int (nI my), .ref g20, .ref g21, .ref g22, .int wt, .int wr, .int fo])), (g6, .inl (cI, 24, .inl (fun jj => nI (qA jj)))), (g7, .inl (cI, 24, .inl (fun jj => nI (qB jj))))])) (va_A [(g0, .inr (11, [.int (nI th), .int (nI mn), .ref g1, .ref g2, .int (nI mb), .ref g3, .ref g4, .ref g5, .int (nI mw), .ref g6, .ref g7, .ref g8, .ref g9, .ref g10, .long msa, .long msb, .ref g11, .ref g12, .ref g13, .ref g14, .ref g15, .int (nI mz), .ref g16, .ref g17, .ref g18, .int (nI mv), .ref g19, .int (nI my), .ref g20, .ref g21, .ref g22, .int wt, .int wr, .int fo])), (g6, .inl (cI, 24, .inl (fun jj => nI (qA jj)))), (g7, .inl (cI, 24, .inl (fun jj => nI (qB jj))))] sz)) 0 0 (va_A [(g0, .inr (11, [.int (nI th), .int (nI mn), .ref g1, .ref g2, .int (nI mb), .ref g3, .ref g4, .ref g5, .int (nI mw), .ref g6, .ref g7, .ref g8, .ref g9, .ref g10, .long msa, .long msb, .ref g11, .ref g12, .ref g13, .ref g14, .ref g15, .int (nI mz), .ref g16, .ref g17, .ref g18, .int (nI mv), .ref g19, .int (nI my), .ref g20, .ref g21, .ref g22, .int wt, .int wr, .int fo])), (g6, .inl (cI, 24, .inl (fun jj => nI (qA jj)))), (g7, .inl (cI, 24, .inl (fun jj => nI (qB jj))))] sz) := by
  refine gx_met RX7 rfl (by decide) rfl (Nat.le_of_ble_eq_true rfl) ?_
  intro X hl hDx hAx C hQ hXP hsz hin
  subst hl; subst hDx
  rw [← hAx] at hQ
  refine g_lv [0, 1, 2] (lv' := [(0, .ref g0), (1, .int (nI v)), (2, .int (nI w))]) rfl ?_
  refine g_aload_n C dX7_meet_0 1 rfl rfl ?_
  refine g_get C iw_X7_meet_X7 0 rfl rfl 9 (by decide) (by decide +kernel) rfl rfl dX7_meet_1 4 rfl ?_
  refine g_iload_n C dX7_meet_4 5 rfl rfl ?_
  refine g_iald C 1 0 rfl rfl v rfl (by omega) (by decide) dX7_meet_5 6 rfl ?_
  refine g_bipush (v := nI 16) C dX7_meet_6 8 rfl (by decide) ?_
  refine g_idivn C dX7_meet_8 9 rfl (by omega) (by omega) (by omega) ?_
  refine g_istore_n C dX7_meet_9 10 rfl (by decide) [1, 2, 3, 0] (lv' := [(0, .ref g0), (1, .int (nI v)), (2, .int (nI w)), (3, .int (nI ((qA v) / 16)))]) rfl ?_
  refine g_aload_n C dX7_meet_10 11 rfl rfl ?_
  refine g_get C iw_X7_meet_X7 0 rfl rfl 10 (by decide) (by decide +kernel) rfl rfl dX7_meet_11 14 rfl ?_
  refine g_iload_n C dX7_meet_14 15 rfl rfl ?_
  refine g_iald C 2 0 rfl rfl v rfl (by omega) (by decide) dX7_meet_15 16 rfl ?_
  refine g_bipush (v := nI 16) C dX7_meet_16 18 rfl (by decide) ?_
  refine g_idivn C dX7_meet_18 19 rfl (by omega) (by omega) (by omega) ?_
  refine g_istore C dX7_meet_19 21 rfl (by decide) [1, 2, 3, 4, 0] (lv' := [(0, .ref g0), (1, .int (nI v)), (2, .int (nI w)), (3, .int (nI ((qA v) / 16))), (4, .int (nI ((qB v) / 16)))]) rfl ?_
  refine g_aload_n C dX7_meet_21 22 rfl rfl ?_
  refine g_get C iw_X7_meet_X7 0 rfl rfl 9 (by decide) (by decide +kernel) rfl rfl dX7_meet_22 25 rfl ?_
  refine g_iload_n C dX7_meet_25 26 rfl rfl ?_
  refine g_iald C 1 0 rfl rfl w rfl (by omega) (by decide) dX7_meet_26 27 rfl ?_
  refine g_bipush (v := nI 16) C dX7_meet_27 29 rfl (by decide) ?_
  refine g_idivn C dX7_meet_29 30 rfl (by omega) (by omega) (by omega) ?_
  refine g_istore C dX7_meet_30 32 rfl (by decide) [1, 2, 3, 4, 5, 0] (lv' := [(0, .ref g0), (1, .int (nI v)), (2, .int (nI w)), (3, .int (nI ((qA v) / 16))), (4, .int (nI ((qB v) / 16))), (5, .int (nI ((qA w) / 16)))]) rfl ?_
  refine g_aload_n C dX7_meet_32 33 rfl rfl ?_
  refine g_get C iw_X7_meet_X7 0 rfl rfl 10 (by decide) (by decide +kernel) rfl rfl dX7_meet_33 36 rfl ?_
  refine g_iload_n C dX7_meet_36 37 rfl rfl ?_
  refine g_iald C 2 0 rfl rfl w rfl (by omega) (by decide) dX7_meet_37 38 rfl ?_
  refine g_bipush (v := nI 16) C dX7_meet_38 40 rfl (by decide) ?_
  refine g_idivn C dX7_meet_40 41 rfl (by omega) (by omega) (by omega) ?_
  refine g_istore C dX7_meet_41 43 rfl (by decide) [1, 2, 3, 4, 5, 6, 0] (lv' := [(0, .ref g0), (1, .int (nI v)), (2, .int (nI w)), (3, .int (nI ((qA v) / 16))), (4, .int (nI ((qB v) / 16))), (5, .int (nI ((qA w) / 16))), (6, .int (nI ((qB w) / 16)))]) rfl ?_
  refine g_iload_n C dX7_meet_43 44 rfl rfl ?_
  refine g_iload C dX7_meet_44 46 rfl rfl ?_
  refine g_icmp_eq_n C dX7_meet_46 69 49 (by decide) rfl (by omega) (by omega) (fun c46 => ?_) (fun c46 => ?_)
  · refine g_iconst (v := nI 1) C dX7_meet_69 70 rfl (by decide) ?_
    refine g_goto C dX7_meet_70 74 (by decide) ?_
    exact g_zret C hQ (Nat.le_of_ble_eq_true rfl) (Nat.le_of_ble_eq_true rfl) dX7_meet_74 rfl () (by simp [bI, nI_one, nI_0, mee, c46]) rfl
  · refine g_iload_n C dX7_meet_49 50 rfl rfl ?_
    refine g_iload C dX7_meet_50 52 rfl rfl ?_
    refine g_icmp_eq_n C dX7_meet_52 69 55 (by decide) rfl (by omega) (by omega) (fun c52 => ?_) (fun c52 => ?_)
    · refine g_iconst (v := nI 1) C dX7_meet_69 70 rfl (by decide) ?_
      refine g_goto C dX7_meet_70 74 (by decide) ?_
      exact g_zret C hQ (Nat.le_of_ble_eq_true rfl) (Nat.le_of_ble_eq_true rfl) dX7_meet_74 rfl () (by simp [bI, nI_one, nI_0, mee, c46, c52]) rfl
    · refine g_iload C dX7_meet_55 57 rfl rfl ?_
      refine g_iload C dX7_meet_57 59 rfl rfl ?_
      refine g_icmp_eq_n C dX7_meet_59 69 62 (by decide) rfl (by omega) (by omega) (fun c59 => ?_) (fun c59 => ?_)
      · refine g_iconst (v := nI 1) C dX7_meet_69 70 rfl (by decide) ?_
        refine g_goto C dX7_meet_70 74 (by decide) ?_
        exact g_zret C hQ (Nat.le_of_ble_eq_true rfl) (Nat.le_of_ble_eq_true rfl) dX7_meet_74 rfl () (by simp [bI, nI_one, nI_0, mee, c46, c52, c59]) rfl
      · refine g_iload C dX7_meet_62 64 rfl rfl ?_
        refine g_iload C dX7_meet_64 66 rfl rfl ?_
        refine g_icmp_ne_n C dX7_meet_66 73 69 (by decide) rfl (by omega) (by omega) (fun c66 => ?_) (fun c66 => ?_)
        · refine g_iconst (v := nI 0) C dX7_meet_73 74 rfl (by decide) ?_
          exact g_zret C hQ (Nat.le_of_ble_eq_true rfl) (Nat.le_of_ble_eq_true rfl) dX7_meet_74 rfl () (by simp [bI, nI_one, nI_0, mee, c46, c52, c59, c66]) rfl
        · refine g_iconst (v := nI 1) C dX7_meet_69 70 rfl (by decide) ?_
          refine g_goto C dX7_meet_70 74 (by decide) ?_
          exact g_zret C hQ (Nat.le_of_ble_eq_true rfl) (Nat.le_of_ble_eq_true rfl) dX7_meet_74 rfl () (by simp [bI, nI_one, nI_0, mee, c46, c52, c59, c66]) rfl
