theorem iw_X7_variant_X7 : ∀ w ∈ wsX70, w ∈ wsX7_variant := by decide +kernel
set_option maxHeartbeats 4000000 in
set_option maxRecDepth 100000 in
theorem c_X7_variant (l : Launch) (D : va_G) (cI cJ cB cZ : ClassId) (sz : Nat) (g0 : Nat) (g1 : Nat) (g2 : Nat) (g3 : Nat) (g4 : Nat) (g5 : Nat) (g6 : Nat) (g7 : Nat) (g8 : Nat) (g9 : Nat) (g10 : Nat) (g11 : Nat) (g12 : Nat) (g13 : Nat) (g14 : Nat) (g15 : Nat) (g16 : Nat) (g17 : Nat) (g18 : Nat) (g19 : Nat) (g20 : Nat) (g21 : Nat) (g22 : Nat) (th : Nat) (mn : Nat) (mb : Nat) (mw : Nat) (mz : Nat) (mv : Nat) (my : Nat) (msa : Int64) (msb : Int64) (wt : Int32) (wr : Int32) (fo : Int32) (h6 : mv ≤ 6) : Met l yX7_variant wsX7_variant ({ frames := 0, cells := 0, slots := 0, locals := 0 }) (va_Pc [.ref g0] (pW D (TY cI cJ cB cZ) [(g0, .inr (11, [.int (nI th), .int (nI mn), .ref g1, .ref g2, .int (nI mb), .ref g3, .ref g4, .ref g5, .int (nI mw), .ref g6, .ref g7, .ref g8, .ref g9, .ref g10, .long msa, .long msb, .ref g11, .ref g12, .ref g13, .ref g14, .ref g15, .int (nI mz), .ref g16, .ref g17, .ref g18, .int (nI mv), .ref g19, .int (nI my), .ref g20, .ref g21, .ref g22, .int wt, .int wr, .int fo]))] (fun _ => True) sz)) (va_Qi (fun (rv : Int32) (u : Nat) => (rv, u) = if mv < 6 then (nI mv, mv + 1) else (-1, mv)) (qW D (TY cI cJ cB cZ) (va_A [(g0, .inr (11, [.int (nI th), .int (nI mn), .ref g1, .ref g2, .int (nI mb), .ref g3, .ref g4, .ref g5, .int (nI mw), .ref g6, .ref g7, .ref g8, .ref g9, .ref g10, .long msa, .long msb, .ref g11, .ref g12, .ref g13, .ref g14, .ref g15, .int (nI mz), .ref g16, .ref g17, .ref g18, .int (nI mv), .ref g19, .int (nI my), .ref g20, .ref g21, .ref g22, .int wt, .int wr, .int fo]))] sz) (fun u => [(g0, .inr (11, [.int (nI 0), .int (nI mn), .ref g1, .ref g2, .int (nI mb), .ref g3, .ref g4, .ref g5, .int (nI mw), .ref g6, .ref g7, .ref g8, .ref g9, .ref g10, .long msa, .long msb, .ref g11, .ref g12, .ref g13, .ref g14, .ref g15, .int (nI mz), .ref g16, .ref g17, .ref g18, .int (nI u), .ref g19, .int (nI my), .ref g20, .ref g21, .ref g22, .int wt, .int wr, .int fo]))])) (va_A [(g0, .inr (11, [.int (nI th), .int (nI mn), .ref g1, .ref g2, .int (nI mb), .ref g3, .ref g4, .ref g5, .int (nI mw), .ref g6, .ref g7, .ref g8, .ref g9, .ref g10, .long msa, .long msb, .ref g11, .ref g12, .ref g13, .ref g14, .ref g15, .int (nI mz), .ref g16, .ref g17, .ref g18, .int (nI mv), .ref g19, .int (nI my), .ref g20, .ref g21, .ref g22, .int wt, .int wr, .int fo]))] sz)) 0 0 (va_A [(g0, .inr (11, [.int (nI th), .int (nI mn), .ref g1, .ref g2, .int (nI mb), .ref g3, .ref g4, .ref g5, .int (nI mw), .ref g6, .ref g7, .ref g8, .ref g9, .ref g10, .long msa, .long msb, .ref g11, .ref g12, .ref g13, .ref g14, .ref g15, .int (nI mz), .ref g16, .ref g17, .ref g18, .int (nI mv), .ref g19, .int (nI my), .ref g20, .ref g21, .ref g22, .int wt, .int wr, .int fo]))] sz) := by
  refine gx_met RX7 rfl (by decide) rfl (Nat.le_of_ble_eq_true rfl) ?_
  intro X hl hDx hAx C hQ hXP hsz hin
  subst hl; subst hDx
  rw [← hAx] at hQ
  refine g_lv [0] (lv' := [(0, .ref g0)]) rfl ?_
  refine g_aload_n C dX7_variant_0 1 rfl rfl ?_
  refine g_iconst (v := nI 0) C dX7_variant_1 2 rfl (by decide) ?_
  refine g_put C (ty := .int) iw_X7_variant_X7 tyX7 tyX7_ok nmX7 0 rfl rfl 0 (by decide) (by decide +kernel) rfl rfl (by decide +kernel) rfl rfl (Nat.le_of_ble_eq_true rfl) dX7_variant_2 5 rfl (ws' := [(g0, .inr (11, [.int (nI 0), .int (nI mn), .ref g1, .ref g2, .int (nI mb), .ref g3, .ref g4, .ref g5, .int (nI mw), .ref g6, .ref g7, .ref g8, .ref g9, .ref g10, .long msa, .long msb, .ref g11, .ref g12, .ref g13, .ref g14, .ref g15, .int (nI mz), .ref g16, .ref g17, .ref g18, .int (nI mv), .ref g19, .int (nI my), .ref g20, .ref g21, .ref g22, .int wt, .int wr, .int fo]))]) rfl ?_
  refine g_aload_n C dX7_variant_5 6 rfl rfl ?_
  refine g_get C iw_X7_variant_X7 0 rfl rfl 25 (by decide) (by decide +kernel) rfl rfl dX7_variant_6 9 rfl ?_
  refine g_bipush (v := nI 6) C dX7_variant_9 11 rfl (by decide) ?_
  refine g_icmp_ne_n C dX7_variant_11 16 14 (by decide) rfl (by omega) (by omega) (fun c11 => ?_) (fun c11 => ?_)
  · refine g_aload_n C dX7_variant_16 17 rfl rfl ?_
    refine g_dup C dX7_variant_17 18 rfl rfl ?_
    refine g_get C iw_X7_variant_X7 0 rfl rfl 25 (by decide) (by decide +kernel) rfl rfl dX7_variant_18 21 rfl ?_
    refine g_iconst (v := nI 1) C dX7_variant_21 22 rfl (by decide) ?_
    refine g_iaddn C dX7_variant_22 23 rfl ?_
    refine g_put C (ty := .int) iw_X7_variant_X7 tyX7 tyX7_ok nmX7 0 rfl rfl 25 (by decide) (by decide +kernel) rfl rfl (by decide +kernel) rfl rfl (Nat.le_of_ble_eq_true rfl) dX7_variant_23 26 rfl (ws' := [(g0, .inr (11, [.int (nI 0), .int (nI mn), .ref g1, .ref g2, .int (nI mb), .ref g3, .ref g4, .ref g5, .int (nI mw), .ref g6, .ref g7, .ref g8, .ref g9, .ref g10, .long msa, .long msb, .ref g11, .ref g12, .ref g13, .ref g14, .ref g15, .int (nI mz), .ref g16, .ref g17, .ref g18, .int (nI (mv + 1)), .ref g19, .int (nI my), .ref g20, .ref g21, .ref g22, .int wt, .int wr, .int fo]))]) rfl ?_
    refine g_aload_n C dX7_variant_26 27 rfl rfl ?_
    refine g_get C iw_X7_variant_X7 0 rfl rfl 25 (by decide) (by decide +kernel) rfl rfl dX7_variant_27 30 rfl ?_
    refine g_iconst (v := nI 1) C dX7_variant_30 31 rfl (by decide) ?_
    refine g_isubn C dX7_variant_31 32 rfl (by omega) ?_
    exact g_iret C hQ (Nat.le_of_ble_eq_true rfl) (Nat.le_of_ble_eq_true rfl) dX7_variant_32 (mv + 1) (by rw [if_pos (by omega), show mv + 1 - 1 = mv by omega]) (by first | (dsimp only; done) | rfl)
  · refine g_iconst (v := -1) C dX7_variant_14 15 rfl (by decide) ?_
    exact g_iret C hQ (Nat.le_of_ble_eq_true rfl) (Nat.le_of_ble_eq_true rfl) dX7_variant_15 (mv) (by rw [if_neg (by omega)]) (by first | (dsimp only; done) | rfl)
