theorem iw_X7_isWire_X7 : ∀ w ∈ wsX70, w ∈ wsX7_isWire := by decide +kernel
set_option maxHeartbeats 4000000 in
set_option maxRecDepth 100000 in
theorem c_X7_isWire (l : Launch) (D : va_G) (cI cJ cB cZ : ClassId) (sz : Nat) (g0 : Nat) (g1 : Nat) (g2 : Nat) (g3 : Nat) (g4 : Nat) (g5 : Nat) (g6 : Nat) (g7 : Nat) (g8 : Nat) (g9 : Nat) (g10 : Nat) (g11 : Nat) (g12 : Nat) (g13 : Nat) (g14 : Nat) (g15 : Nat) (g16 : Nat) (g17 : Nat) (g18 : Nat) (g19 : Nat) (g20 : Nat) (g21 : Nat) (g22 : Nat) (th : Nat) (mn : Nat) (mb : Nat) (mw : Nat) (mz : Nat) (mv : Nat) (my : Nat) (msa : Int64) (msb : Int64) (wt : Int32) (wr : Int32) (fo : Int32) (x : Int32)  : Met l yX7_isWire wsX7_isWire ({ frames := 0, cells := 0, slots := 0, locals := 0 }) (va_Pc [.ref g0, .int x] (pW D (TY cI cJ cB cZ) [(g0, .inr (11, [.int (nI th), .int (nI mn), .ref g1, .ref g2, .int (nI mb), .ref g3, .ref g4, .ref g5, .int (nI mw), .ref g6, .ref g7, .ref g8, .ref g9, .ref g10, .long msa, .long msb, .ref g11, .ref g12, .ref g13, .ref g14, .ref g15, .int (nI mz), .ref g16, .ref g17, .ref g18, .int (nI mv), .ref g19, .int (nI my), .ref g20, .ref g21, .ref g22, .int wt, .int wr, .int fo]))] (fun _ => True) sz)) (va_Qi (fun (rv : Int32) (_ : Unit) => rv = bI (inB x mw)) (qW D (TY cI cJ cB cZ) (va_A [(g0, .inr (11, [.int (nI th), .int (nI mn), .ref g1, .ref g2, .int (nI mb), .ref g3, .ref g4, .ref g5, .int (nI mw), .ref g6, .ref g7, .ref g8, .ref g9, .ref g10, .long msa, .long msb, .ref g11, .ref g12, .ref g13, .ref g14, .ref g15, .int (nI mz), .ref g16, .ref g17, .ref g18, .int (nI mv), .ref g19, .int (nI my), .ref g20, .ref g21, .ref g22, .int wt, .int wr, .int fo]))] sz) (fun _ => [(g0, .inr (11, [.int (nI th), .int (nI mn), .ref g1, .ref g2, .int (nI mb), .ref g3, .ref g4, .ref g5, .int (nI mw), .ref g6, .ref g7, .ref g8, .ref g9, .ref g10, .long msa, .long msb, .ref g11, .ref g12, .ref g13, .ref g14, .ref g15, .int (nI mz), .ref g16, .ref g17, .ref g18, .int (nI mv), .ref g19, .int (nI my), .ref g20, .ref g21, .ref g22, .int wt, .int wr, .int fo]))])) (va_A [(g0, .inr (11, [.int (nI th), .int (nI mn), .ref g1, .ref g2, .int (nI mb), .ref g3, .ref g4, .ref g5, .int (nI mw), .ref g6, .ref g7, .ref g8, .ref g9, .ref g10, .long msa, .long msb, .ref g11, .ref g12, .ref g13, .ref g14, .ref g15, .int (nI mz), .ref g16, .ref g17, .ref g18, .int (nI mv), .ref g19, .int (nI my), .ref g20, .ref g21, .ref g22, .int wt, .int wr, .int fo]))] sz)) 0 0 (va_A [(g0, .inr (11, [.int (nI th), .int (nI mn), .ref g1, .ref g2, .int (nI mb), .ref g3, .ref g4, .ref g5, .int (nI mw), .ref g6, .ref g7, .ref g8, .ref g9, .ref g10, .long msa, .long msb, .ref g11, .ref g12, .ref g13, .ref g14, .ref g15, .int (nI mz), .ref g16, .ref g17, .ref g18, .int (nI mv), .ref g19, .int (nI my), .ref g20, .ref g21, .ref g22, .int wt, .int wr, .int fo]))] sz) := by
  refine gx_met RX7 rfl (by decide) rfl (Nat.le_of_ble_eq_true rfl) ?_
  intro X hl hDx hAx C hQ hXP hsz hin
  subst hl; subst hDx
  rw [← hAx] at hQ
  refine g_lv [0, 1] (lv' := [(0, .ref g0), (1, .int x)]) rfl ?_
  refine g_iload_n C dX7_isWire_0 1 rfl rfl ?_
  refine g_if_lt C dX7_isWire_1 16 4 (by decide) rfl (fun c1 => ?_) (fun c1 => ?_)
  · refine g_iconst (v := nI 0) C dX7_isWire_16 17 rfl (by decide) ?_
    exact g_zret C hQ (Nat.le_of_ble_eq_true rfl) (Nat.le_of_ble_eq_true rfl) dX7_isWire_17 rfl () (by simp [bI, nI_one, nI_0, inB, c1]) rfl
  · refine g_iload_n C dX7_isWire_4 5 rfl rfl ?_
    refine g_aload_n C dX7_isWire_5 6 rfl rfl ?_
    refine g_get C iw_X7_isWire_X7 0 rfl rfl 8 (by decide) (by decide +kernel) rfl rfl dX7_isWire_6 9 rfl ?_
    refine g_icmp_ge C dX7_isWire_9 16 12 (by decide) rfl (fun c9 => ?_) (fun c9 => ?_)
    · refine g_iconst (v := nI 0) C dX7_isWire_16 17 rfl (by decide) ?_
      exact g_zret C hQ (Nat.le_of_ble_eq_true rfl) (Nat.le_of_ble_eq_true rfl) dX7_isWire_17 rfl () (by simp [bI, nI_one, nI_0, inB, c1, c9]) rfl
    · refine g_iconst (v := nI 1) C dX7_isWire_12 13 rfl (by decide) ?_
      refine g_goto C dX7_isWire_13 17 (by decide) ?_
      exact g_zret C hQ (Nat.le_of_ble_eq_true rfl) (Nat.le_of_ble_eq_true rfl) dX7_isWire_17 rfl () (by simp [bI, nI_one, nI_0, inB, c1, c9]) rfl
