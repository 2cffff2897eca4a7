theorem iw_X7_addNode_X7 : ∀ w ∈ wsX70, w ∈ wsX7_addNode := by decide +kernel
set_option maxHeartbeats 4000000 in
set_option maxRecDepth 100000 in
theorem c_X7_addNode (l : Launch) (D : va_G) (cI cJ cB cZ : ClassId) (sz : Nat) (g0 : Nat) (g1 : Nat) (g2 : Nat) (g3 : Nat) (g4 : Nat) (g5 : Nat) (g6 : Nat) (g7 : Nat) (g8 : Nat) (g9 : Nat) (g10 : Nat) (g11 : Nat) (g12 : Nat) (g13 : Nat) (g14 : Nat) (g15 : Nat) (g16 : Nat) (g17 : Nat) (g18 : Nat) (g19 : Nat) (g20 : Nat) (g21 : Nat) (g22 : Nat) (th : Nat) (mn : Nat) (mb : Nat) (mw : Nat) (mz : Nat) (mv : Nat) (my : Nat) (msa : Int64) (msb : Int64) (wt : Int32) (wr : Int32) (fo : Int32) (mc : Nat → Nat) (k : Nat) (hm : mn ≤ 16) : Met l yX7_addNode wsX7_addNode ({ frames := 0, cells := 0, slots := 0, locals := 0 }) (va_Pc [.ref g0, .int (nI k)] (pW D (TY cI cJ cB cZ) [(g0, .inr (11, [.int (nI th), .int (nI mn), .ref g1, .ref g2, .int (nI mb), .ref g3, .ref g4, .ref g5, .int (nI mw), .ref g6, .ref g7, .ref g8, .ref g9, .ref g10, .long msa, .long msb, .ref g11, .ref g12, .ref g13, .ref g14, .ref g15, .int (nI mz), .ref g16, .ref g17, .ref g18, .int (nI mv), .ref g19, .int (nI my), .ref g20, .ref g21, .ref g22, .int wt, .int wr, .int fo])), (g1, .inl (cI, 16, .inl (fun jj => nI (mc jj))))] (fun _ => True) sz)) (va_Qi (fun (rv : Int32) (u : Nat × (Nat → Nat)) => (rv, u.2, u.1) = GaddNode mc mn k) (qW D (TY cI cJ cB cZ) (va_A [(g0, .inr (11, [.int (nI th), .int (nI mn), .ref g1, .ref g2, .int (nI mb), .ref g3, .ref g4, .ref g5, .int (nI mw), .ref g6, .ref g7, .ref g8, .ref g9, .ref g10, .long msa, .long msb, .ref g11, .ref g12, .ref g13, .ref g14, .ref g15, .int (nI mz), .ref g16, .ref g17, .ref g18, .int (nI mv), .ref g19, .int (nI my), .ref g20, .ref g21, .ref g22, .int wt, .int wr, .int fo])), (g1, .inl (cI, 16, .inl (fun jj => nI (mc jj))))] sz) (fun u => [(g0, .inr (11, [.int (nI th), .int (nI u.1), .ref g1, .ref g2, .int (nI mb), .ref g3, .ref g4, .ref g5, .int (nI mw), .ref g6, .ref g7, .ref g8, .ref g9, .ref g10, .long msa, .long msb, .ref g11, .ref g12, .ref g13, .ref g14, .ref g15, .int (nI mz), .ref g16, .ref g17, .ref g18, .int (nI mv), .ref g19, .int (nI my), .ref g20, .ref g21, .ref g22, .int wt, .int wr, .int fo])), (g1, .inl (cI, 16, .inl (fun jj => nI (u.2 jj))))])) (va_A [(g0, .inr (11, [.int (nI th), .int (nI mn), .ref g1, .ref g2, .int (nI mb), .ref g3, .ref g4, .ref g5, .int (nI mw), .ref g6, .ref g7, .ref g8, .ref g9, .ref g10, .long msa, .long msb, .ref g11, .ref g12, .ref g13, .ref g14, .ref g15, .int (nI mz), .ref g16, .ref g17, .ref g18, .int (nI mv), .ref g19, .int (nI my), .ref g20, .ref g21, .ref g22, .int wt, .int wr, .int fo])), (g1, .inl (cI, 16, .inl (fun jj => nI (mc jj))))] sz)) 0 0 (va_A [(g0, .inr (11, [.int (nI th), .int (nI mn), .ref g1, .ref g2, .int (nI mb), .ref g3, .ref g4, .ref g5, .int (nI mw), .ref g6, .ref g7, .ref g8, .ref g9, .ref g10, .long msa, .long msb, .ref g11, .ref g12, .ref g13, .ref g14, .ref g15, .int (nI mz), .ref g16, .ref g17, .ref g18, .int (nI mv), .ref g19, .int (nI my), .ref g20, .ref g21, .ref g22, .int wt, .int wr, .int fo])), (g1, .inl (cI, 16, .inl (fun jj => nI (mc jj))))] sz) := by
  refine gx_met RX7 rfl (by decide) rfl (Nat.le_of_ble_eq_true rfl) ?_
  intro X hl hDx hAx C hQ hXP hsz hin
  subst hl; subst hDx
  rw [← hAx] at hQ
  refine g_lv [0, 1] (lv' := [(0, .ref g0), (1, .int (nI k))]) rfl ?_
  refine g_aload_n C dX7_addNode_0 1 rfl rfl ?_
  refine g_get C iw_X7_addNode_X7 0 rfl rfl 1 (by decide) (by decide +kernel) rfl rfl dX7_addNode_1 4 rfl ?_
  refine g_bipush (v := nI 16) C dX7_addNode_4 6 rfl (by decide) ?_
  refine g_icmp_ne_n C dX7_addNode_6 11 9 (by decide) rfl (by omega) (by omega) (fun c6 => ?_) (fun c6 => ?_)
  · refine g_aload_n C dX7_addNode_11 12 rfl rfl ?_
    refine g_get C iw_X7_addNode_X7 0 rfl rfl 2 (by decide) (by decide +kernel) rfl rfl dX7_addNode_12 15 rfl ?_
    refine g_aload_n C dX7_addNode_15 16 rfl rfl ?_
    refine g_get C iw_X7_addNode_X7 0 rfl rfl 1 (by decide) (by decide +kernel) rfl rfl dX7_addNode_16 19 rfl ?_
    refine g_iload_n C dX7_addNode_19 20 rfl rfl ?_
    refine g_iast C 1 0 rfl rfl mn rfl (by omega) (by decide) dX7_addNode_20 21 rfl (ws' := [(g0, .inr (11, [.int (nI th), .int (nI mn), .ref g1, .ref g2, .int (nI mb), .ref g3, .ref g4, .ref g5, .int (nI mw), .ref g6, .ref g7, .ref g8, .ref g9, .ref g10, .long msa, .long msb, .ref g11, .ref g12, .ref g13, .ref g14, .ref g15, .int (nI mz), .ref g16, .ref g17, .ref g18, .int (nI mv), .ref g19, .int (nI my), .ref g20, .ref g21, .ref g22, .int wt, .int wr, .int fo])), (g1, .inl (cI, 16, .inl (fun jj => nI ((updN mc mn k) jj))))]) (by rw [upd_nI]; rfl) ?_
    refine g_aload_n C dX7_addNode_21 22 rfl rfl ?_
    refine g_dup C dX7_addNode_22 23 rfl rfl ?_
    refine g_get C iw_X7_addNode_X7 0 rfl rfl 1 (by decide) (by decide +kernel) rfl rfl dX7_addNode_23 26 rfl ?_
    refine g_iconst (v := nI 1) C dX7_addNode_26 27 rfl (by decide) ?_
    refine g_iaddn C dX7_addNode_27 28 rfl ?_
    refine g_put C (ty := .int) iw_X7_addNode_X7 tyX7 tyX7_ok nmX7 0 rfl rfl 1 (by decide) (by decide +kernel) rfl rfl (by decide +kernel) rfl rfl (Nat.le_of_ble_eq_true rfl) dX7_addNode_28 31 rfl (ws' := [(g0, .inr (11, [.int (nI th), .int (nI (mn + 1)), .ref g1, .ref g2, .int (nI mb), .ref g3, .ref g4, .ref g5, .int (nI mw), .ref g6, .ref g7, .ref g8, .ref g9, .ref g10, .long msa, .long msb, .ref g11, .ref g12, .ref g13, .ref g14, .ref g15, .int (nI mz), .ref g16, .ref g17, .ref g18, .int (nI mv), .ref g19, .int (nI my), .ref g20, .ref g21, .ref g22, .int wt, .int wr, .int fo])), (g1, .inl (cI, 16, .inl (fun jj => nI ((updN mc mn k) jj))))]) rfl ?_
    refine g_aload_n C dX7_addNode_31 32 rfl rfl ?_
    refine g_get C iw_X7_addNode_X7 0 rfl rfl 1 (by decide) (by decide +kernel) rfl rfl dX7_addNode_32 35 rfl ?_
    refine g_iconst (v := nI 1) C dX7_addNode_35 36 rfl (by decide) ?_
    refine g_isubn C dX7_addNode_36 37 rfl (by omega) ?_
    exact g_iret C hQ (Nat.le_of_ble_eq_true rfl) (Nat.le_of_ble_eq_true rfl) dX7_addNode_37 (mn + 1, updN mc mn k) (by dsimp only; rw [GaddNode, if_neg c6, show mn + 1 - 1 = mn by omega]) (by first | (dsimp only; done) | rfl)
  · refine g_iconst (v := -1) C dX7_addNode_9 10 rfl (by decide) ?_
    exact g_iret C hQ (Nat.le_of_ble_eq_true rfl) (Nat.le_of_ble_eq_true rfl) dX7_addNode_10 (mn, mc) (by dsimp only; rw [GaddNode, if_pos c6]) (by first | (dsimp only; done) | rfl)
