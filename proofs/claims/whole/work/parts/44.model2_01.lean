theorem iw_X7_table_X7 : ∀ w ∈ wsX70, w ∈ wsX7_table := by decide +kernel
set_option maxHeartbeats 4000000 in
set_option maxRecDepth 100000 in
theorem c_X7_table (l : Launch) (D : va_G) (cI cJ cB cZ : ClassId) (sz : Nat) (g0 : Nat) (g1 : Nat) (g2 : Nat) (g3 : Nat) (g4 : Nat) (g5 : Nat) (g6 : Nat) (g7 : Nat) (g8 : Nat) (g9 : Nat) (g10 : Nat) (g11 : Nat) (g12 : Nat) (g13 : Nat) (g14 : Nat) (g15 : Nat) (g16 : Nat) (g17 : Nat) (g18 : Nat) (g19 : Nat) (g20 : Nat) (g21 : Nat) (g22 : Nat) (th : Nat) (mn : Nat) (mb : Nat) (mw : Nat) (mz : Nat) (mv : Nat) (my : Nat) (msa : Int64) (msb : Int64) (wt : Int32) (wr : Int32) (fo : Int32) (td : Nat → Int32) (mar : Nat → Int64) (mam : Nat → Int64) (moh : Nat → Int64) (x : Int32) (y : Int64) (z : Int64) (q : Int64)  : Met l yX7_table wsX7_table ({ frames := 2, cells := 0, slots := 0, locals := 46 }) (va_Pc [.ref g0, .int x, .long y, .long z, .long q] (pW D (TY cI cJ cB cZ) [(g0, .inr (11, [.int (nI th), .int (nI mn), .ref g1, .ref g2, .int (nI mb), .ref g3, .ref g4, .ref g5, .int (nI mw), .ref g6, .ref g7, .ref g8, .ref g9, .ref g10, .long msa, .long msb, .ref g11, .ref g12, .ref g13, .ref g14, .ref g15, .int (nI mz), .ref g16, .ref g17, .ref g18, .int (nI mv), .ref g19, .int (nI my), .ref g20, .ref g21, .ref g22, .int wt, .int wr, .int fo])), (g11, .inl (cZ, 10, .inl td)), (g12, .inl (cJ, 10, .inr (.inl mar))), (g13, .inl (cJ, 10, .inr (.inl mam))), (g14, .inl (cJ, 10, .inr (.inl moh)))] (fun _ => True) sz)) (va_Qi (fun (rv : Int32) (u : Nat × (Nat → Int32) × (Nat → Int64) × (Nat → Int64) × (Nat → Int64)) => (u.1 = 1 ∧ ¬ inR x 10 ∧ u.2.1 = td ∧ u.2.2.1 = mar ∧ u.2.2.2.1 = mam ∧ u.2.2.2.2 = moh) ∨ (u.1 = 2 ∧ inR x 10 ∧ ¬ (wiN y 1 1000000 ∧ wiN z 1 1000000 ∧ wiN q 1 1000000) ∧ u.2.1 = td ∧ u.2.2.1 = mar ∧ u.2.2.2.1 = mam ∧ u.2.2.2.2 = moh) ∨ (u.1 = 0 ∧ inR x 10 ∧ (wiN y 1 1000000 ∧ wiN z 1 1000000 ∧ wiN q 1 1000000) ∧ rv = bI (!(!(decide (td (cN x) = 0)) && decide (mar (cN x) = y) && decide (mam (cN x) = z) && decide (moh (cN x) = q))) ∧ u.2.1 = upd td (cN x) 1 ∧ u.2.2.1 = vp_updL mar (cN x) y ∧ u.2.2.2.1 = vp_updL mam (cN x) z ∧ u.2.2.2.2 = vp_updL moh (cN x) q)) (qW D (TY cI cJ cB cZ) (va_A [(g0, .inr (11, [.int (nI th), .int (nI mn), .ref g1, .ref g2, .int (nI mb), .ref g3, .ref g4, .ref g5, .int (nI mw), .ref g6, .ref g7, .ref g8, .ref g9, .ref g10, .long msa, .long msb, .ref g11, .ref g12, .ref g13, .ref g14, .ref g15, .int (nI mz), .ref g16, .ref g17, .ref g18, .int (nI mv), .ref g19, .int (nI my), .ref g20, .ref g21, .ref g22, .int wt, .int wr, .int fo])), (g11, .inl (cZ, 10, .inl td)), (g12, .inl (cJ, 10, .inr (.inl mar))), (g13, .inl (cJ, 10, .inr (.inl mam))), (g14, .inl (cJ, 10, .inr (.inl moh)))] sz) (fun u => [(g0, .inr (11, [.int (nI u.1), .int (nI mn), .ref g1, .ref g2, .int (nI mb), .ref g3, .ref g4, .ref g5, .int (nI mw), .ref g6, .ref g7, .ref g8, .ref g9, .ref g10, .long msa, .long msb, .ref g11, .ref g12, .ref g13, .ref g14, .ref g15, .int (nI mz), .ref g16, .ref g17, .ref g18, .int (nI mv), .ref g19, .int (nI my), .ref g20, .ref g21, .ref g22, .int wt, .int wr, .int fo])), (g11, .inl (cZ, 10, .inl u.2.1)), (g12, .inl (cJ, 10, .inr (.inl u.2.2.1))), (g13, .inl (cJ, 10, .inr (.inl u.2.2.2.1))), (g14, .inl (cJ, 10, .inr (.inl u.2.2.2.2)))])) (va_A [(g0, .inr (11, [.int (nI th), .int (nI mn), .ref g1, .ref g2, .int (nI mb), .ref g3, .ref g4, .ref g5, .int (nI mw), .ref g6, .ref g7, .ref g8, .ref g9, .ref g10, .long msa, .long msb, .ref g11, .ref g12, .ref g13, .ref g14, .ref g15, .int (nI mz), .ref g16, .ref g17, .ref g18, .int (nI mv), .ref g19, .int (nI my), .ref g20, .ref g21, .ref g22, .int wt, .int wr, .int fo])), (g11, .inl (cZ, 10, .inl td)), (g12, .inl (cJ, 10, .inr (.inl mar))), (g13, .inl (cJ, 10, .inr (.inl mam))), (g14, .inl (cJ, 10, .inr (.inl moh)))] sz)) 0 0 (va_A [(g0, .inr (11, [.int (nI th), .int (nI mn), .ref g1, .ref g2, .int (nI mb), .ref g3, .ref g4, .ref g5, .int (nI mw), .ref g6, .ref g7, .ref g8, .ref g9, .ref g10, .long msa, .long msb, .ref g11, .ref g12, .ref g13, .ref g14, .ref g15, .int (nI mz), .ref g16, .ref g17, .ref g18, .int (nI mv), .ref g19, .int (nI my), .ref g20, .ref g21, .ref g22, .int wt, .int wr, .int fo])), (g11, .inl (cZ, 10, .inl td)), (g12, .inl (cJ, 10, .inr (.inl mar))), (g13, .inl (cJ, 10, .inr (.inl mam))), (g14, .inl (cJ, 10, .inr (.inl moh)))] sz) := by
  refine gx_met RX7 rfl (by decide) rfl (Nat.le_of_ble_eq_true rfl) ?_
  intro X hl hDx hAx C hQ hXP hsz hin
  subst hl; subst hDx
  rw [← hAx] at hQ
  refine g_lv [0, 1, 2, 3, 4] (lv' := [(0, .ref g0), (1, .int x), (2, .long y), (4, .long z), (6, .long q)]) rfl ?_
  refine g_lload_n C dX7_table_0 1 rfl rfl ?_
  refine g_callSi (As := [.long y]) (rest := []) (wr := [(g0, .inr (11, [.int (nI th), .int (nI mn), .ref g1, .ref g2, .int (nI mb), .ref g3, .ref g4, .ref g5, .int (nI mw), .ref g6, .ref g7, .ref g8, .ref g9, .ref g10, .long msa, .long msb, .ref g11, .ref g12, .ref g13, .ref g14, .ref g15, .int (nI mz), .ref g16, .ref g17, .ref g18, .int (nI mv), .ref g19, .int (nI my), .ref g20, .ref g21, .ref g22, .int wt, .int wr, .int fo])), (g11, .inl (cZ, 10, .inl td)), (g12, .inl (cJ, 10, .inr (.inl mar))), (g13, .inl (cJ, 10, .inr (.inl mam))), (g14, .inl (cJ, 10, .inr (.inl moh)))]) (ws' := fun (_ : Unit) => [(g0, .inr (11, [.int (nI th), .int (nI mn), .ref g1, .ref g2, .int (nI mb), .ref g3, .ref g4, .ref g5, .int (nI mw), .ref g6, .ref g7, .ref g8, .ref g9, .ref g10, .long msa, .long msb, .ref g11, .ref g12, .ref g13, .ref g14, .ref g15, .int (nI mz), .ref g16, .ref g17, .ref g18, .int (nI mv), .ref g19, .int (nI my), .ref g20, .ref g21, .ref g22, .int wt, .int wr, .int fo])), (g11, .inl (cZ, 10, .inl td)), (g12, .inl (cJ, 10, .inr (.inl mar))), (g13, .inl (cJ, 10, .inr (.inl mam))), (g14, .inl (cJ, 10, .inr (.inl moh)))]) C (fun sz => c_X7_isNumber _ _ cI cJ cB cZ sz y ) gx_XP0 1 gX7_table_X7_isNumber rfl rfl rfl (by decide +kernel) ⟨Nat.le_of_ble_eq_true rfl, Nat.le_of_ble_eq_true rfl⟩ [] [0, 1, 2, 3, 4] [0, 1, 2, 3, 4] rfl (by decide) rfl (by decide) (by decide) (fun _ => rfl) (by decide) rfl rfl (Nat.le_of_ble_eq_true rfl) dX7_table_1 ⟨Nat.le_of_ble_eq_true rfl, Nat.le_of_ble_eq_true rfl⟩ 4 rfl (eqk ?_)
  refine g_if_eq_b C dX7_table_4 27 7 (by decide) rfl (fun c4 => ?_) (fun c4 => ?_)
  · refine g_iconst (v := nI 0) C dX7_table_27 28 rfl (by decide) ?_
    refine g_istore C dX7_table_28 30 rfl (by decide) [1, 2, 3, 4, 5, 0] (lv' := [(0, .ref g0), (1, .int x), (2, .long y), (4, .long z), (6, .long q), (8, .int (nI 0))]) rfl ?_
    refine g_aload_n C dX7_table_30 31 rfl rfl ?_
    refine g_iload_n C dX7_table_31 32 rfl rfl ?_
    refine g_if_lt C dX7_table_32 41 35 (by decide) rfl (fun c32 => ?_) (fun c32 => ?_)
    · refine g_iconst (v := nI 1) C dX7_table_41 42 rfl (by decide) ?_
      refine g_goto C dX7_table_42 55 (by decide) ?_
      refine g_put C (ty := .int) iw_X7_table_X7 tyX7 tyX7_ok nmX7 0 rfl rfl 0 (by decide) (by decide +kernel) rfl rfl (by decide +kernel) rfl rfl (Nat.le_of_ble_eq_true rfl) dX7_table_55 58 rfl (ws' := [(g0, .inr (11, [.int (nI 1), .int (nI mn), .ref g1, .ref g2, .int (nI mb), .ref g3, .ref g4, .ref g5, .int (nI mw), .ref g6, .ref g7, .ref g8, .ref g9, .ref g10, .long msa, .long msb, .ref g11, .ref g12, .ref g13, .ref g14, .ref g15, .int (nI mz), .ref g16, .ref g17, .ref g18, .int (nI mv), .ref g19, .int (nI my), .ref g20, .ref g21, .ref g22, .int wt, .int wr, .int fo])), (g11, .inl (cZ, 10, .inl td)), (g12, .inl (cJ, 10, .inr (.inl mar))), (g13, .inl (cJ, 10, .inr (.inl mam))), (g14, .inl (cJ, 10, .inr (.inl moh)))]) rfl ?_
      refine g_aload_n C dX7_table_58 59 rfl rfl ?_
      refine g_get C iw_X7_table_X7 0 rfl rfl 0 (by decide) (by decide +kernel) rfl rfl dX7_table_59 62 rfl ?_
      refine g_if_eq_n C dX7_table_62 67 65 (by decide) rfl (by omega) (fun c62 => ?_) (fun c62 => ?_)
      · exact absurd c62 (by omega)
      · refine g_iconst (v := nI 0) C dX7_table_65 66 rfl (by decide) ?_
        exact g_zret C hQ (Nat.le_of_ble_eq_true rfl) (Nat.le_of_ble_eq_true rfl) dX7_table_66 rfl (1, td, mar, mam, moh) (Or.inl ⟨rfl, inR_no (by omega) (Or.inl c32), rfl, rfl, rfl, rfl⟩) (by first | (dsimp only; done) | rfl)
    · refine g_iload_n C dX7_table_35 36 rfl rfl ?_
      refine g_bipush (v := nI 10) C dX7_table_36 38 rfl (by decide) ?_
      refine g_icmp_lt C dX7_table_38 45 41 (by decide) rfl (fun c38 => ?_) (fun c38 => ?_)
      · refine g_iload C dX7_table_45 47 rfl rfl ?_
        refine g_if_eq_n C dX7_table_47 54 50 (by decide) rfl (by omega) (fun c47 => ?_) (fun c47 => ?_)
        · refine g_iconst (v := nI 2) C dX7_table_54 55 rfl (by decide) ?_
          refine g_put C (ty := .int) iw_X7_table_X7 tyX7 tyX7_ok nmX7 0 rfl rfl 0 (by decide) (by decide +kernel) rfl rfl (by decide +kernel) rfl rfl (Nat.le_of_ble_eq_true rfl) dX7_table_55 58 rfl (ws' := [(g0, .inr (11, [.int (nI 2), .int (nI mn), .ref g1, .ref g2, .int (nI mb), .ref g3, .ref g4, .ref g5, .int (nI mw), .ref g6, .ref g7, .ref g8, .ref g9, .ref g10, .long msa, .long msb, .ref g11, .ref g12, .ref g13, .ref g14, .ref g15, .int (nI mz), .ref g16, .ref g17, .ref g18, .int (nI mv), .ref g19, .int (nI my), .ref g20, .ref g21, .ref g22, .int wt, .int wr, .int fo])), (g11, .inl (cZ, 10, .inl td)), (g12, .inl (cJ, 10, .inr (.inl mar))), (g13, .inl (cJ, 10, .inr (.inl mam))), (g14, .inl (cJ, 10, .inr (.inl moh)))]) rfl ?_
          refine g_aload_n C dX7_table_58 59 rfl rfl ?_
          refine g_get C iw_X7_table_X7 0 rfl rfl 0 (by decide) (by decide +kernel) rfl rfl dX7_table_59 62 rfl ?_
          refine g_if_eq_n C dX7_table_62 67 65 (by decide) rfl (by omega) (fun c62 => ?_) (fun c62 => ?_)
          · exact absurd c62 (by omega)
          · refine g_iconst (v := nI 0) C dX7_table_65 66 rfl (by decide) ?_
            exact g_zret C hQ (Nat.le_of_ble_eq_true rfl) (Nat.le_of_ble_eq_true rfl) dX7_table_66 rfl (2, td, mar, mam, moh) (Or.inr (Or.inl ⟨rfl, inR_yes (by omega) c32 c38, fun z9 => wiB_f c4 z9.1, rfl, rfl, rfl, rfl⟩)) (by first | (dsimp only; done) | rfl)
        · exact absurd c47 (by omega)
      · refine g_iconst (v := nI 1) C dX7_table_41 42 rfl (by decide) ?_
        refine g_goto C dX7_table_42 55 (by decide) ?_
        refine g_put C (ty := .int) iw_X7_table_X7 tyX7 tyX7_ok nmX7 0 rfl rfl 0 (by decide) (by decide +kernel) rfl rfl (by decide +kernel) rfl rfl (Nat.le_of_ble_eq_true rfl) dX7_table_55 58 rfl (ws' := [(g0, .inr (11, [.int (nI 1), .int (nI mn), .ref g1, .ref g2, .int (nI mb), .ref g3, .ref g4, .ref g5, .int (nI mw), .ref g6, .ref g7, .ref g8, .ref g9, .ref g10, .long msa, .long msb, .ref g11, .ref g12, .ref g13, .ref g14, .ref g15, .int (nI mz), .ref g16, .ref g17, .ref g18, .int (nI mv), .ref g19, .int (nI my), .ref g20, .ref g21, .ref g22, .int wt, .int wr, .int fo])), (g11, .inl (cZ, 10, .inl td)), (g12, .inl (cJ, 10, .inr (.inl mar))), (g13, .inl (cJ, 10, .inr (.inl mam))), (g14, .inl (cJ, 10, .inr (.inl moh)))]) rfl ?_
        refine g_aload_n C dX7_table_58 59 rfl rfl ?_
        refine g_get C iw_X7_table_X7 0 rfl rfl 0 (by decide) (by decide +kernel) rfl rfl dX7_table_59 62 rfl ?_
        refine g_if_eq_n C dX7_table_62 67 65 (by decide) rfl (by omega) (fun c62 => ?_) (fun c62 => ?_)
        · exact absurd c62 (by omega)
        · refine g_iconst (v := nI 0) C dX7_table_65 66 rfl (by decide) ?_
          exact g_zret C hQ (Nat.le_of_ble_eq_true rfl) (Nat.le_of_ble_eq_true rfl) dX7_table_66 rfl (1, td, mar, mam, moh) (Or.inl ⟨rfl, inR_no (by omega) (Or.inr c38), rfl, rfl, rfl, rfl⟩) (by first | (dsimp only; done) | rfl)
  · refine g_lload C dX7_table_7 9 rfl rfl ?_
    refine g_callSi (As := [.long z]) (rest := []) (wr := [(g0, .inr (11, [.int (nI th), .int (nI mn), .ref g1, .ref g2, .int (nI mb), .ref g3, .ref g4, .ref g5, .int (nI mw), .ref g6, .ref g7, .ref g8, .ref g9, .ref g10, .long msa, .long msb, .ref g11, .ref g12, .ref g13, .ref g14, .ref g15, .int (nI mz), .ref g16, .ref g17, .ref g18, .int (nI mv), .ref g19, .int (nI my), .ref g20, .ref g21, .ref g22, .int wt, .int wr, .int fo])), (g11, .inl (cZ, 10, .inl td)), (g12, .inl (cJ, 10, .inr (.inl mar))), (g13, .inl (cJ, 10, .inr (.inl mam))), (g14, .inl (cJ, 10, .inr (.inl moh)))]) (ws' := fun (_ : Unit) => [(g0, .inr (11, [.int (nI th), .int (nI mn), .ref g1, .ref g2, .int (nI mb), .ref g3, .ref g4, .ref g5, .int (nI mw), .ref g6, .ref g7, .ref g8, .ref g9, .ref g10, .long msa, .long msb, .ref g11, .ref g12, .ref g13, .ref g14, .ref g15, .int (nI mz), .ref g16, .ref g17, .ref g18, .int (nI mv), .ref g19, .int (nI my), .ref g20, .ref g21, .ref g22, .int wt, .int wr, .int fo])), (g11, .inl (cZ, 10, .inl td)), (g12, .inl (cJ, 10, .inr (.inl mar))), (g13, .inl (cJ, 10, .inr (.inl mam))), (g14, .inl (cJ, 10, .inr (.inl moh)))]) C (fun sz => c_X7_isNumber _ _ cI cJ cB cZ sz z ) gx_XP0 1 gX7_table_X7_isNumber rfl rfl rfl (by decide +kernel) ⟨Nat.le_of_ble_eq_true rfl, Nat.le_of_ble_eq_true rfl⟩ [] [0, 1, 2, 3, 4] [0, 1, 2, 3, 4] rfl (by decide) rfl (by decide) (by decide) (fun _ => rfl) (by decide) rfl rfl (Nat.le_of_ble_eq_true rfl) dX7_table_9 ⟨Nat.le_of_ble_eq_true rfl, Nat.le_of_ble_eq_true rfl⟩ 12 rfl (eqk ?_)
    refine g_if_eq_b C dX7_table_12 27 15 (by decide) rfl (fun c12 => ?_) (fun c12 => ?_)
    · refine g_iconst (v := nI 0) C dX7_table_27 28 rfl (by decide) ?_
      refine g_istore C dX7_table_28 30 rfl (by decide) [1, 2, 3, 4, 5, 0] (lv' := [(0, .ref g0), (1, .int x), (2, .long y), (4, .long z), (6, .long q), (8, .int (nI 0))]) rfl ?_
      refine g_aload_n C dX7_table_30 31 rfl rfl ?_
      refine g_iload_n C dX7_table_31 32 rfl rfl ?_
      refine g_if_lt C dX7_table_32 41 35 (by decide) rfl (fun c32 => ?_) (fun c32 => ?_)
      · refine g_iconst (v := nI 1) C dX7_table_41 42 rfl (by decide) ?_
        refine g_goto C dX7_table_42 55 (by decide) ?_
        refine g_put C (ty := .int) iw_X7_table_X7 tyX7 tyX7_ok nmX7 0 rfl rfl 0 (by decide) (by decide +kernel) rfl rfl (by decide +kernel) rfl rfl (Nat.le_of_ble_eq_true rfl) dX7_table_55 58 rfl (ws' := [(g0, .inr (11, [.int (nI 1), .int (nI mn), .ref g1, .ref g2, .int (nI mb), .ref g3, .ref g4, .ref g5, .int (nI mw), .ref g6, .ref g7, .ref g8, .ref g9, .ref g10, .long msa, .long msb, .ref g11, .ref g12, .ref g13, .ref g14, .ref g15, .int (nI mz), .ref g16, .ref g17, .ref g18, .int (nI mv), .ref g19, .int (nI my), .ref g20, .ref g21, .ref g22, .int wt, .int wr, .int fo])), (g11, .inl (cZ, 10, .inl td)), (g12, .inl (cJ, 10, .inr (.inl mar))), (g13, .inl (cJ, 10, .inr (.inl mam))), (g14, .inl (cJ, 10, .inr (.inl moh)))]) rfl ?_
        refine g_aload_n C dX7_table_58 59 rfl rfl ?_
        refine g_get C iw_X7_table_X7 0 rfl rfl 0 (by decide) (by decide +kernel) rfl rfl dX7_table_59 62 rfl ?_
        refine g_if_eq_n C dX7_table_62 67 65 (by decide) rfl (by omega) (fun c62 => ?_) (fun c62 => ?_)
        · exact absurd c62 (by omega)
        · refine g_iconst (v := nI 0) C dX7_table_65 66 rfl (by decide) ?_
          exact g_zret C hQ (Nat.le_of_ble_eq_true rfl) (Nat.le_of_ble_eq_true rfl) dX7_table_66 rfl (1, td, mar, mam, moh) (Or.inl ⟨rfl, inR_no (by omega) (Or.inl c32), rfl, rfl, rfl, rfl⟩) (by first | (dsimp only; done) | rfl)
      · refine g_iload_n C dX7_table_35 36 rfl rfl ?_
        refine g_bipush (v := nI 10) C dX7_table_36 38 rfl (by decide) ?_
        refine g_icmp_lt C dX7_table_38 45 41 (by decide) rfl (fun c38 => ?_) (fun c38 => ?_)
        · refine g_iload C dX7_table_45 47 rfl rfl ?_
          refine g_if_eq_n C dX7_table_47 54 50 (by decide) rfl (by omega) (fun c47 => ?_) (fun c47 => ?_)
          · refine g_iconst (v := nI 2) C dX7_table_54 55 rfl (by decide) ?_
            refine g_put C (ty := .int) iw_X7_table_X7 tyX7 tyX7_ok nmX7 0 rfl rfl 0 (by decide) (by decide +kernel) rfl rfl (by decide +kernel) rfl rfl (Nat.le_of_ble_eq_true rfl) dX7_table_55 58 rfl (ws' := [(g0, .inr (11, [.int (nI 2), .int (nI mn), .ref g1, .ref g2, .int (nI mb), .ref g3, .ref g4, .ref g5, .int (nI mw), .ref g6, .ref g7, .ref g8, .ref g9, .ref g10, .long msa, .long msb, .ref g11, .ref g12, .ref g13, .ref g14, .ref g15, .int (nI mz), .ref g16, .ref g17, .ref g18, .int (nI mv), .ref g19, .int (nI my), .ref g20, .ref g21, .ref g22, .int wt, .int wr, .int fo])), (g11, .inl (cZ, 10, .inl td)), (g12, .inl (cJ, 10, .inr (.inl mar))), (g13, .inl (cJ, 10, .inr (.inl mam))), (g14, .inl (cJ, 10, .inr (.inl moh)))]) rfl ?_
            refine g_aload_n C dX7_table_58 59 rfl rfl ?_
            refine g_get C iw_X7_table_X7 0 rfl rfl 0 (by decide) (by decide +kernel) rfl rfl dX7_table_59 62 rfl ?_
            refine g_if_eq_n C dX7_table_62 67 65 (by decide) rfl (by omega) (fun c62 => ?_) (fun c62 => ?_)
            · exact absurd c62 (by omega)
            · refine g_iconst (v := nI 0) C dX7_table_65 66 rfl (by decide) ?_
              exact g_zret C hQ (Nat.le_of_ble_eq_true rfl) (Nat.le_of_ble_eq_true rfl) dX7_table_66 rfl (2, td, mar, mam, moh) (Or.inr (Or.inl ⟨rfl, inR_yes (by omega) c32 c38, fun z9 => wiB_f c12 z9.2.1, rfl, rfl, rfl, rfl⟩)) (by first | (dsimp only; done) | rfl)
          · exact absurd c47 (by omega)
        · refine g_iconst (v := nI 1) C dX7_table_41 42 rfl (by decide) ?_
          refine g_goto C dX7_table_42 55 (by decide) ?_
          refine g_put C (ty := .int) iw_X7_table_X7 tyX7 tyX7_ok nmX7 0 rfl rfl 0 (by decide) (by decide +kernel) rfl rfl (by decide +kernel) rfl rfl (Nat.le_of_ble_eq_true rfl) dX7_table_55 58 rfl (ws' := [(g0, .inr (11, [.int (nI 1), .int (nI mn), .ref g1, .ref g2, .int (nI mb), .ref g3, .ref g4, .ref g5, .int (nI mw), .ref g6, .ref g7, .ref g8, .ref g9, .ref g10, .long msa, .long msb, .ref g11, .ref g12, .ref g13, .ref g14, .ref g15, .int (nI mz), .ref g16, .ref g17, .ref g18, .int (nI mv), .ref g19, .int (nI my), .ref g20, .ref g21, .ref g22, .int wt, .int wr, .int fo])), (g11, .inl (cZ, 10, .inl td)), (g12, .inl (cJ, 10, .inr (.inl mar))), (g13, .inl (cJ, 10, .inr (.inl mam))), (g14, .inl (cJ, 10, .inr (.inl moh)))]) rfl ?_
          refine g_aload_n C dX7_table_58 59 rfl rfl ?_
          refine g_get C iw_X7_table_X7 0 rfl rfl 0 (by decide) (by decide +kernel) rfl rfl dX7_table_59 62 rfl ?_
          refine g_if_eq_n C dX7_table_62 67 65 (by decide) rfl (by omega) (fun c62 => ?_) (fun c62 => ?_)
          · exact absurd c62 (by omega)
          · refine g_iconst (v := nI 0) C dX7_table_65 66 rfl (by decide) ?_
            exact g_zret C hQ (Nat.le_of_ble_eq_true rfl) (Nat.le_of_ble_eq_true rfl) dX7_table_66 rfl (1, td, mar, mam, moh) (Or.inl ⟨rfl, inR_no (by omega) (Or.inr c38), rfl, rfl, rfl, rfl⟩) (by first | (dsimp only; done) | rfl)
    · refine g_lload C dX7_table_15 17 rfl rfl ?_
      refine g_callSi (As := [.long q]) (rest := []) (wr := [(g0, .inr (11, [.int (nI th), .int (nI mn), .ref g1, .ref g2, .int (nI mb), .ref g3, .ref g4, .ref g5, .int (nI mw), .ref g6, .ref g7, .ref g8, .ref g9, .ref g10, .long msa, .long msb, .ref g11, .ref g12, .ref g13, .ref g14, .ref g15, .int (nI mz), .ref g16, .ref g17, .ref g18, .int (nI mv), .ref g19, .int (nI my), .ref g20, .ref g21, .ref g22, .int wt, .int wr, .int fo])), (g11, .inl (cZ, 10, .inl td)), (g12, .inl (cJ, 10, .inr (.inl mar))), (g13, .inl (cJ, 10, .inr (.inl mam))), (g14, .inl (cJ, 10, .inr (.inl moh)))]) (ws' := fun (_ : Unit) => [(g0, .inr (11, [.int (nI th), .int (nI mn), .ref g1, .ref g2, .int (nI mb), .ref g3, .ref g4, .ref g5, .int (nI mw), .ref g6, .ref g7, .ref g8, .ref g9, .ref g10, .long msa, .long msb, .ref g11, .ref g12, .ref g13, .ref g14, .ref g15, .int (nI mz), .ref g16, .ref g17, .ref g18, .int (nI mv), .ref g19, .int (nI my), .ref g20, .ref g21, .ref g22, .int wt, .int wr, .int fo])), (g11, .inl (cZ, 10, .inl td)), (g12, .inl (cJ, 10, .inr (.inl mar))), (g13, .inl (cJ, 10, .inr (.inl mam))), (g14, .inl (cJ, 10, .inr (.inl moh)))]) C (fun sz => c_X7_isNumber _ _ cI cJ cB cZ sz q ) gx_XP0 1 gX7_table_X7_isNumber rfl rfl rfl (by decide +kernel) ⟨Nat.le_of_ble_eq_true rfl, Nat.le_of_ble_eq_true rfl⟩ [] [0, 1, 2, 3, 4] [0, 1, 2, 3, 4] rfl (by decide) rfl (by decide) (by decide) (fun _ => rfl) (by decide) rfl rfl (Nat.le_of_ble_eq_true rfl) dX7_table_17 ⟨Nat.le_of_ble_eq_true rfl, Nat.le_of_ble_eq_true rfl⟩ 20 rfl (eqk ?_)
      refine g_if_eq_b C dX7_table_20 27 23 (by decide) rfl (fun c20 => ?_) (fun c20 => ?_)
      · refine g_iconst (v := nI 0) C dX7_table_27 28 rfl (by decide) ?_
        refine g_istore C dX7_table_28 30 rfl (by decide) [1, 2, 3, 4, 5, 0] (lv' := [(0, .ref g0), (1, .int x), (2, .long y), (4, .long z), (6, .long q), (8, .int (nI 0))]) rfl ?_
        refine g_aload_n C dX7_table_30 31 rfl rfl ?_
        refine g_iload_n C dX7_table_31 32 rfl rfl ?_
        refine g_if_lt C dX7_table_32 41 35 (by decide) rfl (fun c32 => ?_) (fun c32 => ?_)
        · refine g_iconst (v := nI 1) C dX7_table_41 42 rfl (by decide) ?_
          refine g_goto C dX7_table_42 55 (by decide) ?_
          refine g_put C (ty := .int) iw_X7_table_X7 tyX7 tyX7_ok nmX7 0 rfl rfl 0 (by decide) (by decide +kernel) rfl rfl (by decide +kernel) rfl rfl (Nat.le_of_ble_eq_true rfl) dX7_table_55 58 rfl (ws' := [(g0, .inr (11, [.int (nI 1), .int (nI mn), .ref g1, .ref g2, .int (nI mb), .ref g3, .ref g4, .ref g5, .int (nI mw), .ref g6, .ref g7, .ref g8, .ref g9, .ref g10, .long msa, .long msb, .ref g11, .ref g12, .ref g13, .ref g14, .ref g15, .int (nI mz), .ref g16, .ref g17, .ref g18, .int (nI mv), .ref g19, .int (nI my), .ref g20, .ref g21, .ref g22, .int wt, .int wr, .int fo])), (g11, .inl (cZ, 10, .inl td)), (g12, .inl (cJ, 10, .inr (.inl mar))), (g13, .inl (cJ, 10, .inr (.inl mam))), (g14, .inl (cJ, 10, .inr (.inl moh)))]) rfl ?_
          refine g_aload_n C dX7_table_58 59 rfl rfl ?_
          refine g_get C iw_X7_table_X7 0 rfl rfl 0 (by decide) (by decide +kernel) rfl rfl dX7_table_59 62 rfl ?_
          refine g_if_eq_n C dX7_table_62 67 65 (by decide) rfl (by omega) (fun c62 => ?_) (fun c62 => ?_)
          · exact absurd c62 (by omega)
          · refine g_iconst (v := nI 0) C dX7_table_65 66 rfl (by decide) ?_
            exact g_zret C hQ (Nat.le_of_ble_eq_true rfl) (Nat.le_of_ble_eq_true rfl) dX7_table_66 rfl (1, td, mar, mam, moh) (Or.inl ⟨rfl, inR_no (by omega) (Or.inl c32), rfl, rfl, rfl, rfl⟩) (by first | (dsimp only; done) | rfl)
        · refine g_iload_n C dX7_table_35 36 rfl rfl ?_
          refine g_bipush (v := nI 10) C dX7_table_36 38 rfl (by decide) ?_
          refine g_icmp_lt C dX7_table_38 45 41 (by decide) rfl (fun c38 => ?_) (fun c38 => ?_)
          · refine g_iload C dX7_table_45 47 rfl rfl ?_
            refine g_if_eq_n C dX7_table_47 54 50 (by decide) rfl (by omega) (fun c47 => ?_) (fun c47 => ?_)
            · refine g_iconst (v := nI 2) C dX7_table_54 55 rfl (by decide) ?_
              refine g_put C (ty := .int) iw_X7_table_X7 tyX7 tyX7_ok nmX7 0 rfl rfl 0 (by decide) (by decide +kernel) rfl rfl (by decide +kernel) rfl rfl (Nat.le_of_ble_eq_true rfl) dX7_table_55 58 rfl (ws' := [(g0, .inr (11, [.int (nI 2), .int (nI mn), .ref g1, .ref g2, .int (nI mb), .ref g3, .ref g4, .ref g5, .int (nI mw), .ref g6, .ref g7, .ref g8, .ref g9, .ref g10, .long msa, .long msb, .ref g11, .ref g12, .ref g13, .ref g14, .ref g15, .int (nI mz), .ref g16, .ref g17, .ref g18, .int (nI mv), .ref g19, .int (nI my), .ref g20, .ref g21, .ref g22, .int wt, .int wr, .int fo])), (g11, .inl (cZ, 10, .inl td)), (g12, .inl (cJ, 10, .inr (.inl mar))), (g13, .inl (cJ, 10, .inr (.inl mam))), (g14, .inl (cJ, 10, .inr (.inl moh)))]) rfl ?_
              refine g_aload_n C dX7_table_58 59 rfl rfl ?_
              refine g_get C iw_X7_table_X7 0 rfl rfl 0 (by decide) (by decide +kernel) rfl rfl dX7_table_59 62 rfl ?_
              refine g_if_eq_n C dX7_table_62 67 65 (by decide) rfl (by omega) (fun c62 => ?_) (fun c62 => ?_)
              · exact absurd c62 (by omega)
              · refine g_iconst (v := nI 0) C dX7_table_65 66 rfl (by decide) ?_
                exact g_zret C hQ (Nat.le_of_ble_eq_true rfl) (Nat.le_of_ble_eq_true rfl) dX7_table_66 rfl (2, td, mar, mam, moh) (Or.inr (Or.inl ⟨rfl, inR_yes (by omega) c32 c38, fun z9 => wiB_f c20 z9.2.2, rfl, rfl, rfl, rfl⟩)) (by first | (dsimp only; done) | rfl)
            · exact absurd c47 (by omega)
          · refine g_iconst (v := nI 1) C dX7_table_41 42 rfl (by decide) ?_
            refine g_goto C dX7_table_42 55 (by decide) ?_
            refine g_put C (ty := .int) iw_X7_table_X7 tyX7 tyX7_ok nmX7 0 rfl rfl 0 (by decide) (by decide +kernel) rfl rfl (by decide +kernel) rfl rfl (Nat.le_of_ble_eq_true rfl) dX7_table_55 58 rfl (ws' := [(g0, .inr (11, [.int (nI 1), .int (nI mn), .ref g1, .ref g2, .int (nI mb), .ref g3, .ref g4, .ref g5, .int (nI mw), .ref g6, .ref g7, .ref g8, .ref g9, .ref g10, .long msa, .long msb, .ref g11, .ref g12, .ref g13, .ref g14, .ref g15, .int (nI mz), .ref g16, .ref g17, .ref g18, .int (nI mv), .ref g19, .int (nI my), .ref g20, .ref g21, .ref g22, .int wt, .int wr, .int fo])), (g11, .inl (cZ, 10, .inl td)), (g12, .inl (cJ, 10, .inr (.inl mar))), (g13, .inl (cJ, 10, .inr (.inl mam))), (g14, .inl (cJ, 10, .inr (.inl moh)))]) rfl ?_
            refine g_aload_n C dX7_table_58 59 rfl rfl ?_
            refine g_get C iw_X7_table_X7 0 rfl rfl 0 (by decide) (by decide +kernel) rfl rfl dX7_table_59 62 rfl ?_
            refine g_if_eq_n C dX7_table_62 67 65 (by decide) rfl (by omega) (fun c62 => ?_) (fun c62 => ?_)
            · exact absurd c62 (by omega)
            · refine g_iconst (v := nI 0) C dX7_table_65 66 rfl (by decide) ?_
              exact g_zret C hQ (Nat.le_of_ble_eq_true rfl) (Nat.le_of_ble_eq_true rfl) dX7_table_66 rfl (1, td, mar, mam, moh) (Or.inl ⟨rfl, inR_no (by omega) (Or.inr c38), rfl, rfl, rfl, rfl⟩) (by first | (dsimp only; done) | rfl)
      · refine g_iconst (v := nI 1) C dX7_table_23 24 rfl (by decide) ?_
        refine g_goto C dX7_table_24 28 (by decide) ?_
        refine g_istore C dX7_table_28 30 rfl (by decide) [1, 2, 3, 4, 5, 0] (lv' := [(0, .ref g0), (1, .int x), (2, .long y), (4, .long z), (6, .long q), (8, .int (nI 1))]) rfl ?_
        refine g_aload_n C dX7_table_30 31 rfl rfl ?_
        refine g_iload_n C dX7_table_31 32 rfl rfl ?_
        refine g_if_lt C dX7_table_32 41 35 (by decide) rfl (fun c32 => ?_) (fun c32 => ?_)
        · refine g_iconst (v := nI 1) C dX7_table_41 42 rfl (by decide) ?_
          refine g_goto C dX7_table_42 55 (by decide) ?_
          refine g_put C (ty := .int) iw_X7_table_X7 tyX7 tyX7_ok nmX7 0 rfl rfl 0 (by decide) (by decide +kernel) rfl rfl (by decide +kernel) rfl rfl (Nat.le_of_ble_eq_true rfl) dX7_table_55 58 rfl (ws' := [(g0, .inr (11, [.int (nI 1), .int (nI mn), .ref g1, .ref g2, .int (nI mb), .ref g3, .ref g4, .ref g5, .int (nI mw), .ref g6, .ref g7, .ref g8, .ref g9, .ref g10, .long msa, .long msb, .ref g11, .ref g12, .ref g13, .ref g14, .ref g15, .int (nI mz), .ref g16, .ref g17, .ref g18, .int (nI mv), .ref g19, .int (nI my), .ref g20, .ref g21, .ref g22, .int wt, .int wr, .int fo])), (g11, .inl (cZ, 10, .inl td)), (g12, .inl (cJ, 10, .inr (.inl mar))), (g13, .inl (cJ, 10, .inr (.inl mam))), (g14, .inl (cJ, 10, .inr (.inl moh)))]) rfl ?_
          refine g_aload_n C dX7_table_58 59 rfl rfl ?_
          refine g_get C iw_X7_table_X7 0 rfl rfl 0 (by decide) (by decide +kernel) rfl rfl dX7_table_59 62 rfl ?_
          refine g_if_eq_n C dX7_table_62 67 65 (by decide) rfl (by omega) (fun c62 => ?_) (fun c62 => ?_)
          · exact absurd c62 (by omega)
          · refine g_iconst (v := nI 0) C dX7_table_65 66 rfl (by decide) ?_
            exact g_zret C hQ (Nat.le_of_ble_eq_true rfl) (Nat.le_of_ble_eq_true rfl) dX7_table_66 rfl (1, td, mar, mam, moh) (Or.inl ⟨rfl, inR_no (by omega) (Or.inl c32), rfl, rfl, rfl, rfl⟩) (by first | (dsimp only; done) | rfl)
        · refine g_iload_n C dX7_table_35 36 rfl rfl ?_
          refine g_bipush (v := nI 10) C dX7_table_36 38 rfl (by decide) ?_
          refine g_icmp_lt C dX7_table_38 45 41 (by decide) rfl (fun c38 => ?_) (fun c38 => ?_)
          · refine g_iload C dX7_table_45 47 rfl rfl ?_
            refine g_if_eq_n C dX7_table_47 54 50 (by decide) rfl (by omega) (fun c47 => ?_) (fun c47 => ?_)
            · exact absurd c47 (by omega)
            · refine g_iconst (v := nI 0) C dX7_table_50 51 rfl (by decide) ?_
              refine g_goto C dX7_table_51 55 (by decide) ?_
              refine g_put C (ty := .int) iw_X7_table_X7 tyX7 tyX7_ok nmX7 0 rfl rfl 0 (by decide) (by decide +kernel) rfl rfl (by decide +kernel) rfl rfl (Nat.le_of_ble_eq_true rfl) dX7_table_55 58 rfl (ws' := [(g0, .inr (11, [.int (nI 0), .int (nI mn), .ref g1, .ref g2, .int (nI mb), .ref g3, .ref g4, .ref g5, .int (nI mw), .ref g6, .ref g7, .ref g8, .ref g9, .ref g10, .long msa, .long msb, .ref g11, .ref g12, .ref g13, .ref g14, .ref g15, .int (nI mz), .ref g16, .ref g17, .ref g18, .int (nI mv), .ref g19, .int (nI my), .ref g20, .ref g21, .ref g22, .int wt, .int wr, .int fo])), (g11, .inl (cZ, 10, .inl td)), (g12, .inl (cJ, 10, .inr (.inl mar))), (g13, .inl (cJ, 10, .inr (.inl mam))), (g14, .inl (cJ, 10, .inr (.inl moh)))]) rfl ?_
              refine g_aload_n C dX7_table_58 59 rfl rfl ?_
              refine g_get C iw_X7_table_X7 0 rfl rfl 0 (by decide) (by decide +kernel) rfl rfl dX7_table_59 62 rfl ?_
              refine g_if_eq_n C dX7_table_62 67 65 (by decide) rfl (by omega) (fun c62 => ?_) (fun c62 => ?_)
              · have hrx := inR_yes (n := 10) (by omega) c32 c38
                obtain ⟨i, hi, rfl⟩ := id hrx
                refine g_aload_n C dX7_table_67 68 rfl rfl ?_
                refine g_get C iw_X7_table_X7 0 rfl rfl 16 (by decide) (by decide +kernel) rfl rfl dX7_table_68 71 rfl ?_
                refine g_iload_n C dX7_table_71 72 rfl rfl ?_
                refine g_zald C 1 3 rfl rfl i rfl (by omega) (by decide) dX7_table_72 73 rfl ?_
                refine g_if_eq C dX7_table_73 115 76 (by decide) rfl (fun c73 => ?_) (fun c73 => ?_)
                · refine g_iconst (v := nI 0) C dX7_table_115 116 rfl (by decide) ?_
                  refine g_istore C dX7_table_116 118 rfl (by decide) [1, 2, 3, 4, 5, 6, 0] (lv' := [(0, .ref g0), (1, .int (nI i)), (2, .long y), (4, .long z), (6, .long q), (8, .int (nI 1)), (9, .int (nI 0))]) rfl ?_
                  refine g_aload_n C dX7_table_118 119 rfl rfl ?_
                  refine g_get C iw_X7_table_X7 0 rfl rfl 16 (by decide) (by decide +kernel) rfl rfl dX7_table_119 122 rfl ?_
                  refine g_iload_n C dX7_table_122 123 rfl rfl ?_
                  refine g_iconst (v := nI 1) C dX7_table_123 124 rfl (by decide) ?_
                  refine g_zast C 1 3 rfl rfl i rfl (by omega) (by decide) dX7_table_124 125 rfl (ws' := [(g0, .inr (11, [.int (nI 0), .int (nI mn), .ref g1, .ref g2, .int (nI mb), .ref g3, .ref g4, .ref g5, .int (nI mw), .ref g6, .ref g7, .ref g8, .ref g9, .ref g10, .long msa, .long msb, .ref g11, .ref g12, .ref g13, .ref g14, .ref g15, .int (nI mz), .ref g16, .ref g17, .ref g18, .int (nI mv), .ref g19, .int (nI my), .ref g20, .ref g21, .ref g22, .int wt, .int wr, .int fo])), (g11, .inl (cZ, 10, .inl (upd td i 1))), (g12, .inl (cJ, 10, .inr (.inl mar))), (g13, .inl (cJ, 10, .inr (.inl mam))), (g14, .inl (cJ, 10, .inr (.inl moh)))]) rfl ?_
                  refine g_aload_n C dX7_table_125 126 rfl rfl ?_
                  refine g_get C iw_X7_table_X7 0 rfl rfl 17 (by decide) (by decide +kernel) rfl rfl dX7_table_126 129 rfl ?_
                  refine g_iload_n C dX7_table_129 130 rfl rfl ?_
                  refine g_lload_n C dX7_table_130 131 rfl rfl ?_
                  refine g_last C 2 1 rfl rfl i rfl (by omega) (by decide) dX7_table_131 132 rfl (ws' := [(g0, .inr (11, [.int (nI 0), .int (nI mn), .ref g1, .ref g2, .int (nI mb), .ref g3, .ref g4, .ref g5, .int (nI mw), .ref g6, .ref g7, .ref g8, .ref g9, .ref g10, .long msa, .long msb, .ref g11, .ref g12, .ref g13, .ref g14, .ref g15, .int (nI mz), .ref g16, .ref g17, .ref g18, .int (nI mv), .ref g19, .int (nI my), .ref g20, .ref g21, .ref g22, .int wt, .int wr, .int fo])), (g11, .inl (cZ, 10, .inl (upd td i 1))), (g12, .inl (cJ, 10, .inr (.inl (vp_updL mar i y)))), (g13, .inl (cJ, 10, .inr (.inl mam))), (g14, .inl (cJ, 10, .inr (.inl moh)))]) rfl ?_
                  refine g_aload_n C dX7_table_132 133 rfl rfl ?_
                  refine g_get C iw_X7_table_X7 0 rfl rfl 18 (by decide) (by decide +kernel) rfl rfl dX7_table_133 136 rfl ?_
                  refine g_iload_n C dX7_table_136 137 rfl rfl ?_
                  refine g_lload C dX7_table_137 139 rfl rfl ?_
                  refine g_last C 3 1 rfl rfl i rfl (by omega) (by decide) dX7_table_139 140 rfl (ws' := [(g0, .inr (11, [.int (nI 0), .int (nI mn), .ref g1, .ref g2, .int (nI mb), .ref g3, .ref g4, .ref g5, .int (nI mw), .ref g6, .ref g7, .ref g8, .ref g9, .ref g10, .long msa, .long msb, .ref g11, .ref g12, .ref g13, .ref g14, .ref g15, .int (nI mz), .ref g16, .ref g17, .ref g18, .int (nI mv), .ref g19, .int (nI my), .ref g20, .ref g21, .ref g22, .int wt, .int wr, .int fo])), (g11, .inl (cZ, 10, .inl (upd td i 1))), (g12, .inl (cJ, 10, .inr (.inl (vp_updL mar i y)))), (g13, .inl (cJ, 10, .inr (.inl (vp_updL mam i z)))), (g14, .inl (cJ, 10, .inr (.inl moh)))]) rfl ?_
                  refine g_aload_n C dX7_table_140 141 rfl rfl ?_
                  refine g_get C iw_X7_table_X7 0 rfl rfl 19 (by decide) (by decide +kernel) rfl rfl dX7_table_141 144 rfl ?_
                  refine g_iload_n C dX7_table_144 145 rfl rfl ?_
                  refine g_lload C dX7_table_145 147 rfl rfl ?_
                  refine g_last C 4 1 rfl rfl i rfl (by omega) (by decide) dX7_table_147 148 rfl (ws' := [(g0, .inr (11, [.int (nI 0), .int (nI mn), .ref g1, .ref g2, .int (nI mb), .ref g3, .ref g4, .ref g5, .int (nI mw), .ref g6, .ref g7, .ref g8, .ref g9, .ref g10, .long msa, .long msb, .ref g11, .ref g12, .ref g13, .ref g14, .ref g15, .int (nI mz), .ref g16, .ref g17, .ref g18, .int (nI mv), .ref g19, .int (nI my), .ref g20, .ref g21, .ref g22, .int wt, .int wr, .int fo])), (g11, .inl (cZ, 10, .inl (upd td i 1))), (g12, .inl (cJ, 10, .inr (.inl (vp_updL mar i y)))), (g13, .inl (cJ, 10, .inr (.inl (vp_updL mam i z)))), (g14, .inl (cJ, 10, .inr (.inl (vp_updL moh i q))))]) rfl ?_
                  refine g_iload C dX7_table_148 150 rfl rfl ?_
                  refine g_if_ne_n C dX7_table_150 157 153 (by decide) rfl (by omega) (fun c150 => ?_) (fun c150 => ?_)
                  · exact absurd c150 (by omega)
                  · refine g_iconst (v := nI 1) C dX7_table_153 154 rfl (by decide) ?_
                    refine g_goto C dX7_table_154 158 (by decide) ?_
                    exact g_zret C hQ (Nat.le_of_ble_eq_true rfl) (Nat.le_of_ble_eq_true rfl) dX7_table_158 rfl (0, upd td i 1, vp_updL mar i y, vp_updL mam i z, vp_updL moh i q) (Or.inr (Or.inr ⟨rfl, hrx, ⟨wiB_t c4, wiB_t c12, wiB_t c20⟩, by rw [cN_nI (by omega)]; simp [bI, nI_one, nI_0, c73], by rw [cN_nI (by omega)], by rw [cN_nI (by omega)], by rw [cN_nI (by omega)], by rw [cN_nI (by omega)]⟩)) (by first | (dsimp only; done) | rfl)
                · refine g_aload_n C dX7_table_76 77 rfl rfl ?_
                  refine g_get C iw_X7_table_X7 0 rfl rfl 17 (by decide) (by decide +kernel) rfl rfl dX7_table_77 80 rfl ?_
                  refine g_iload_n C dX7_table_80 81 rfl rfl ?_
                  refine g_lald C 2 1 rfl rfl i rfl (by omega) (by decide) dX7_table_81 82 rfl ?_
                  refine g_lload_n C dX7_table_82 83 rfl rfl ?_
                  refine g_lc_ne C dX7_table_83 84 rfl dX7_table_84 115 87 (by decide) rfl (fun c83 => ?_) (fun c83 => ?_)
                  · refine g_iconst (v := nI 0) C dX7_table_115 116 rfl (by decide) ?_
                    refine g_istore C dX7_table_116 118 rfl (by decide) [1, 2, 3, 4, 5, 6, 0] (lv' := [(0, .ref g0), (1, .int (nI i)), (2, .long y), (4, .long z), (6, .long q), (8, .int (nI 1)), (9, .int (nI 0))]) rfl ?_
                    refine g_aload_n C dX7_table_118 119 rfl rfl ?_
                    refine g_get C iw_X7_table_X7 0 rfl rfl 16 (by decide) (by decide +kernel) rfl rfl dX7_table_119 122 rfl ?_
                    refine g_iload_n C dX7_table_122 123 rfl rfl ?_
                    refine g_iconst (v := nI 1) C dX7_table_123 124 rfl (by decide) ?_
                    refine g_zast C 1 3 rfl rfl i rfl (by omega) (by decide) dX7_table_124 125 rfl (ws' := [(g0, .inr (11, [.int (nI 0), .int (nI mn), .ref g1, .ref g2, .int (nI mb), .ref g3, .ref g4, .ref g5, .int (nI mw), .ref g6, .ref g7, .ref g8, .ref g9, .ref g10, .long msa, .long msb, .ref g11, .ref g12, .ref g13, .ref g14, .ref g15, .int (nI mz), .ref g16, .ref g17, .ref g18, .int (nI mv), .ref g19, .int (nI my), .ref g20, .ref g21, .ref g22, .int wt, .int wr, .int fo])), (g11, .inl (cZ, 10, .inl (upd td i 1))), (g12, .inl (cJ, 10, .inr (.inl mar))), (g13, .inl (cJ, 10, .inr (.inl mam))), (g14, .inl (cJ, 10, .inr (.inl moh)))]) rfl ?_
                    refine g_aload_n C dX7_table_125 126 rfl rfl ?_
                    refine g_get C iw_X7_table_X7 0 rfl rfl 17 (by decide) (by decide +kernel) rfl rfl dX7_table_126 129 rfl ?_
                    refine g_iload_n C dX7_table_129 130 rfl rfl ?_
                    refine g_lload_n C dX7_table_130 131 rfl rfl ?_
                    refine g_last C 2 1 rfl rfl i rfl (by omega) (by decide) dX7_table_131 132 rfl (ws' := [(g0, .inr (11, [.int (nI 0), .int (nI mn), .ref g1, .ref g2, .int (nI mb), .ref g3, .ref g4, .ref g5, .int (nI mw), .ref g6, .ref g7, .ref g8, .ref g9, .ref g10, .long msa, .long msb, .ref g11, .ref g12, .ref g13, .ref g14, .ref g15, .int (nI mz), .ref g16, .ref g17, .ref g18, .int (nI mv), .ref g19, .int (nI my), .ref g20, .ref g21, .ref g22, .int wt, .int wr, .int fo])), (g11, .inl (cZ, 10, .inl (upd td i 1))), (g12, .inl (cJ, 10, .inr (.inl (vp_updL mar i y)))), (g13, .inl (cJ, 10, .inr (.inl mam))), (g14, .inl (cJ, 10, .inr (.inl moh)))]) rfl ?_
                    refine g_aload_n C dX7_table_132 133 rfl rfl ?_
                    refine g_get C iw_X7_table_X7 0 rfl rfl 18 (by decide) (by decide +kernel) rfl rfl dX7_table_133 136 rfl ?_
                    refine g_iload_n C dX7_table_136 137 rfl rfl ?_
                    refine g_lload C dX7_table_137 139 rfl rfl ?_
                    refine g_last C 3 1 rfl rfl i rfl (by omega) (by decide) dX7_table_139 140 rfl (ws' := [(g0, .inr (11, [.int (nI 0), .int (nI mn), .ref g1, .ref g2, .int (nI mb), .ref g3, .ref g4, .ref g5, .int (nI mw), .ref g6, .ref g7, .ref g8, .ref g9, .ref g10, .long msa, .long msb, .ref g11, .ref g12, .ref g13, .ref g14, .ref g15, .int (nI mz), .ref g16, .ref g17, .ref g18, .int (nI mv), .ref g19, .int (nI my), .ref g20, .ref g21, .ref g22, .int wt, .int wr, .int fo])), (g11, .inl (cZ, 10, .inl (upd td i 1))), (g12, .inl (cJ, 10, .inr (.inl (vp_updL mar i y)))), (g13, .inl (cJ, 10, .inr (.inl (vp_updL mam i z)))), (g14, .inl (cJ, 10, .inr (.inl moh)))]) rfl ?_
                    refine g_aload_n C dX7_table_140 141 rfl rfl ?_
                    refine g_get C iw_X7_table_X7 0 rfl rfl 19 (by decide) (by decide +kernel) rfl rfl dX7_table_141 144 rfl ?_
                    refine g_iload_n C dX7_table_144 145 rfl rfl ?_
                    refine g_lload C dX7_table_145 147 rfl rfl ?_
                    refine g_last C 4 1 rfl rfl i rfl (by omega) (by decide) dX7_table_147 148 rfl (ws' := [(g0, .inr (11, [.int (nI 0), .int (nI mn), .ref g1, .ref g2, .int (nI mb), .ref g3, .ref g4, .ref g5, .int (nI mw), .ref g6, .ref g7, .ref g8, .ref g9, .ref g10, .long msa, .long msb, .ref g11, .ref g12, .ref g13, .ref g14, .ref g15, .int (nI mz), .ref g16, .ref g17, .ref g18, .int (nI mv), .ref g19, .int (nI my), .ref g20, .ref g21, .ref g22, .int wt, .int wr, .int fo])), (g11, .inl (cZ, 10, .inl (upd td i 1))), (g12, .inl (cJ, 10, .inr (.inl (vp_updL mar i y)))), (g13, .inl (cJ, 10, .inr (.inl (vp_updL mam i z)))), (g14, .inl (cJ, 10, .inr (.inl (vp_updL moh i q))))]) rfl ?_
                    refine g_iload C dX7_table_148 150 rfl rfl ?_
                    refine g_if_ne_n C dX7_table_150 157 153 (by decide) rfl (by omega) (fun c150 => ?_) (fun c150 => ?_)
                    · exact absurd c150 (by omega)
                    · refine g_iconst (v := nI 1) C dX7_table_153 154 rfl (by decide) ?_
                      refine g_goto C dX7_table_154 158 (by decide) ?_
                      exact g_zret C hQ (Nat.le_of_ble_eq_true rfl) (Nat.le_of_ble_eq_true rfl) dX7_table_158 rfl (0, upd td i 1, vp_updL mar i y, vp_updL mam i z, vp_updL moh i q) (Or.inr (Or.inr ⟨rfl, hrx, ⟨wiB_t c4, wiB_t c12, wiB_t c20⟩, by rw [cN_nI (by omega)]; simp [bI, nI_one, nI_0, c73, c83], by rw [cN_nI (by omega)], by rw [cN_nI (by omega)], by rw [cN_nI (by omega)], by rw [cN_nI (by omega)]⟩)) (by first | (dsimp only; done) | rfl)
                  · refine g_aload_n C dX7_table_87 88 rfl rfl ?_
                    refine g_get C iw_X7_table_X7 0 rfl rfl 18 (by decide) (by decide +kernel) rfl rfl dX7_table_88 91 rfl ?_
                    refine g_iload_n C dX7_table_91 92 rfl rfl ?_
                    refine g_lald C 3 1 rfl rfl i rfl (by omega) (by decide) dX7_table_92 93 rfl ?_
                    refine g_lload C dX7_table_93 95 rfl rfl ?_
                    refine g_lc_ne C dX7_table_95 96 rfl dX7_table_96 115 99 (by decide) rfl (fun c95 => ?_) (fun c95 => ?_)
                    · refine g_iconst (v := nI 0) C dX7_table_115 116 rfl (by decide) ?_
                      refine g_istore C dX7_table_116 118 rfl (by decide) [1, 2, 3, 4, 5, 6, 0] (lv' := [(0, .ref g0), (1, .int (nI i)), (2, .long y), (4, .long z), (6, .long q), (8, .int (nI 1)), (9, .int (nI 0))]) rfl ?_
                      refine g_aload_n C dX7_table_118 119 rfl rfl ?_
                      refine g_get C iw_X7_table_X7 0 rfl rfl 16 (by decide) (by decide +kernel) rfl rfl dX7_table_119 122 rfl ?_
                      refine g_iload_n C dX7_table_122 123 rfl rfl ?_
                      refine g_iconst (v := nI 1) C dX7_table_123 124 rfl (by decide) ?_
                      refine g_zast C 1 3 rfl rfl i rfl (by omega) (by decide) dX7_table_124 125 rfl (ws' := [(g0, .inr (11, [.int (nI 0), .int (nI mn), .ref g1, .ref g2, .int (nI mb), .ref g3, .ref g4, .ref g5, .int (nI mw), .ref g6, .ref g7, .ref g8, .ref g9, .ref g10, .long msa, .long msb, .ref g11, .ref g12, .ref g13, .ref g14, .ref g15, .int (nI mz), .ref g16, .ref g17, .ref g18, .int (nI mv), .ref g19, .int (nI my), .ref g20, .ref g21, .ref g22, .int wt, .int wr, .int fo])), (g11, .inl (cZ, 10, .inl (upd td i 1))), (g12, .inl (cJ, 10, .inr (.inl mar))), (g13, .inl (cJ, 10, .inr (.inl mam))), (g14, .inl (cJ, 10, .inr (.inl moh)))]) rfl ?_
                      refine g_aload_n C dX7_table_125 126 rfl rfl ?_
                      refine g_get C iw_X7_table_X7 0 rfl rfl 17 (by decide) (by decide +kernel) rfl rfl dX7_table_126 129 rfl ?_
                      refine g_iload_n C dX7_table_129 130 rfl rfl ?_
                      refine g_lload_n C dX7_table_130 131 rfl rfl ?_
                      refine g_last C 2 1 rfl rfl i rfl (by omega) (by decide) dX7_table_131 132 rfl (ws' := [(g0, .inr (11, [.int (nI 0), .int (nI mn), .ref g1, .ref g2, .int (nI mb), .ref g3, .ref g4, .ref g5, .int (nI mw), .ref g6, .ref g7, .ref g8, .ref g9, .ref g10, .long msa, .long msb, .ref g11, .ref g12, .ref g13, .ref g14, .ref g15, .int (nI mz), .ref g16, .ref g17, .ref g18, .int (nI mv), .ref g19, .int (nI my), .ref g20, .ref g21, .ref g22, .int wt, .int wr, .int fo])), (g11, .inl (cZ, 10, .inl (upd td i 1))), (g12, .inl (cJ, 10, .inr (.inl (vp_updL mar i y)))), (g13, .inl (cJ, 10, .inr (.inl mam))), (g14, .inl (cJ, 10, .inr (.inl moh)))]) rfl ?_
                      refine g_aload_n C dX7_table_132 133 rfl rfl ?_
                      refine g_get C iw_X7_table_X7 0 rfl rfl 18 (by decide) (by decide +kernel) rfl rfl dX7_table_133 136 rfl ?_
                      refine g_iload_n C dX7_table_136 137 rfl rfl ?_
                      refine g_lload C dX7_table_137 139 rfl rfl ?_
                      refine g_last C 3 1 rfl rfl i rfl (by omega) (by decide) dX7_table_139 140 rfl (ws' := [(g0, .inr (11, [.int (nI 0), .int (nI mn), .ref g1, .ref g2, .int (nI mb), .ref g3, .ref g4, .ref g5, .int (nI mw), .ref g6, .ref g7, .ref g8, .ref g9, .ref g10, .long msa, .long msb, .ref g11, .ref g12, .ref g13, .ref g14, .ref g15, .int (nI mz), .ref g16, .ref g17, .ref g18, .int (nI mv), .ref g19, .int (nI my), .ref g20, .ref g21, .ref g22, .int wt, .int wr, .int fo])), (g11, .inl (cZ, 10, .inl (upd td i 1))), (g12, .inl (cJ, 10, .inr (.inl (vp_updL mar i y)))), (g13, .inl (cJ, 10, .inr (.inl (vp_updL mam i z)))), (g14, .inl (cJ, 10, .inr (.inl moh)))]) rfl ?_
                      refine g_aload_n C dX7_table_140 141 rfl rfl ?_
                      refine g_get C iw_X7_table_X7 0 rfl rfl 19 (by decide) (by decide +kernel) rfl rfl dX7_table_141 144 rfl ?_
                      refine g_iload_n C dX7_table_144 145 rfl rfl ?_
                      refine g_lload C dX7_table_145 147 rfl rfl ?_
                      refine g_last C 4 1 rfl rfl i rfl (by omega) (by decide) dX7_table_147 148 rfl (ws' := [(g0, .inr (11, [.int (nI 0), .int (nI mn), .ref g1, .ref g2, .int (nI mb), .ref g3, .ref g4, .ref g5, .int (nI mw), .ref g6, .ref g7, .ref g8, .ref g9, .ref g10, .long msa, .long msb, .ref g11, .ref g12, .ref g13, .ref g14, .ref g15, .int (nI mz), .ref g16, .ref g17, .ref g18, .int (nI mv), .ref g19, .int (nI my), .ref g20, .ref g21, .ref g22, .int wt, .int wr, .int fo])), (g11, .inl (cZ, 10, .inl (upd td i 1))), (g12, .inl (cJ, 10, .inr (.inl (vp_updL mar i y)))), (g13, .inl (cJ, 10, .inr (.inl (vp_updL mam i z)))), (g14, .inl (cJ, 10, .inr (.inl (vp_updL moh i q))))]) rfl ?_
                      refine g_iload C dX7_table_148 150 rfl rfl ?_
                      refine g_if_ne_n C dX7_table_150 157 153 (by decide) rfl (by omega) (fun c150 => ?_) (fun c150 => ?_)
                      · exact absurd c150 (by omega)
                      · refine g_iconst (v := nI 1) C dX7_table_153 154 rfl (by decide) ?_
                        refine g_goto C dX7_table_154 158 (by decide) ?_
                        exact g_zret C hQ (Nat.le_of_ble_eq_true rfl) (Nat.le_of_ble_eq_true rfl) dX7_table_158 rfl (0, upd td i 1, vp_updL mar i y, vp_updL mam i z, vp_updL moh i q) (Or.inr (Or.inr ⟨rfl, hrx, ⟨wiB_t c4, wiB_t c12, wiB_t c20⟩, by rw [cN_nI (by omega)]; simp [bI, nI_one, nI_0, c73, c83, c95], by rw [cN_nI (by omega)], by rw [cN_nI (by omega)], by rw [cN_nI (by omega)], by rw [cN_nI (by omega)]⟩)) (by first | (dsimp only; done) | rfl)
                    · refine g_aload_n C dX7_table_99 100 rfl rfl ?_
                      refine g_get C iw_X7_table_X7 0 rfl rfl 19 (by decide) (by decide +kernel) rfl rfl dX7_table_100 103 rfl ?_
                      refine g_iload_n C dX7_table_103 104 rfl rfl ?_
                      refine g_lald C 4 1 rfl rfl i rfl (by omega) (by decide) dX7_table_104 105 rfl ?_
                      refine g_lload C dX7_table_105 107 rfl rfl ?_
                      refine g_lc_ne C dX7_table_107 108 rfl dX7_table_108 115 111 (by decide) rfl (fun c107 => ?_) (fun c107 => ?_)
                      · refine g_iconst (v := nI 0) C dX7_table_115 116 rfl (by decide) ?_
                        refine g_istore C dX7_table_116 118 rfl (by decide) [1, 2, 3, 4, 5, 6, 0] (lv' := [(0, .ref g0), (1, .int (nI i)), (2, .long y), (4, .long z), (6, .long q), (8, .int (nI 1)), (9, .int (nI 0))]) rfl ?_
                        refine g_aload_n C dX7_table_118 119 rfl rfl ?_
                        refine g_get C iw_X7_table_X7 0 rfl rfl 16 (by decide) (by decide +kernel) rfl rfl dX7_table_119 122 rfl ?_
                        refine g_iload_n C dX7_table_122 123 rfl rfl ?_
                        refine g_iconst (v := nI 1) C dX7_table_123 124 rfl (by decide) ?_
                        refine g_zast C 1 3 rfl rfl i rfl (by omega) (by decide) dX7_table_124 125 rfl (ws' := [(g0, .inr (11, [.int (nI 0), .int (nI mn), .ref g1, .ref g2, .int (nI mb), .ref g3, .ref g4, .ref g5, .int (nI mw), .ref g6, .ref g7, .ref g8, .ref g9, .ref g10, .long msa, .long msb, .ref g11, .ref g12, .ref g13, .ref g14, .ref g15, .int (nI mz), .ref g16, .ref g17, .ref g18, .int (nI mv), .ref g19, .int (nI my), .ref g20, .ref g21, .ref g22, .int wt, .int wr, .int fo])), (g11, .inl (cZ, 10, .inl (upd td i 1))), (g12, .inl (cJ, 10, .inr (.inl mar))), (g13, .inl (cJ, 10, .inr (.inl mam))), (g14, .inl (cJ, 10, .inr (.inl moh)))]) rfl ?_
                        refine g_aload_n C dX7_table_125 126 rfl rfl ?_
                        refine g_get C iw_X7_table_X7 0 rfl rfl 17 (by decide) (by decide +kernel) rfl rfl dX7_table_126 129 rfl ?_
                        refine g_iload_n C dX7_table_129 130 rfl rfl ?_
                        refine g_lload_n C dX7_table_130 131 rfl rfl ?_
                        refine g_last C 2 1 rfl rfl i rfl (by omega) (by decide) dX7_table_131 132 rfl (ws' := [(g0, .inr (11, [.int (nI 0), .int (nI mn), .ref g1, .ref g2, .int (nI mb), .ref g3, .ref g4, .ref g5, .int (nI mw), .ref g6, .ref g7, .ref g8, .ref g9, .ref g10, .long msa, .long msb, .ref g11, .ref g12, .ref g13, .ref g14, .ref g15, .int (nI mz), .ref g16, .ref g17, .ref g18, .int (nI mv), .ref g19, .int (nI my), .ref g20, .ref g21, .ref g22, .int wt, .int wr, .int fo])), (g11, .inl (cZ, 10, .inl (upd td i 1))), (g12, .inl (cJ, 10, .inr (.inl (vp_updL mar i y)))), (g13, .inl (cJ, 10, .inr (.inl mam))), (g14, .inl (cJ, 10, .inr (.inl moh)))]) rfl ?_
                        refine g_aload_n C dX7_table_132 133 rfl rfl ?_
                        refine g_get C iw_X7_table_X7 0 rfl rfl 18 (by decide) (by decide +kernel) rfl rfl dX7_table_133 136 rfl ?_
                        refine g_iload_n C dX7_table_136 137 rfl rfl ?_
                        refine g_lload C dX7_table_137 139 rfl rfl ?_
                        refine g_last C 3 1 rfl rfl i rfl (by omega) (by decide) dX7_table_139 140 rfl (ws' := [(g0, .inr (11, [.int (nI 0), .int (nI mn), .ref g1, .ref g2, .int (nI mb), .ref g3, .ref g4, .ref g5, .int (nI mw), .ref g6, .ref g7, .ref g8, .ref g9, .ref g10, .long msa, .long msb, .ref g11, .ref g12, .ref g13, .ref g14, .ref g15, .int (nI mz), .ref g16, .ref g17, .ref g18, .int (nI mv), .ref g19, .int (nI my), .ref g20, .ref g21, .ref g22, .int wt, .int wr, .int fo])), (g11, .inl (cZ, 10, .inl (upd td i 1))), (g12, .inl (cJ, 10, .inr (.inl (vp_updL mar i y)))), (g13, .inl (cJ, 10, .inr (.inl (vp_updL mam i z)))), (g14, .inl (cJ, 10, .inr (.inl moh)))]) rfl ?_
                        refine g_aload_n C dX7_table_140 141 rfl rfl ?_
                        refine g_get C iw_X7_table_X7 0 rfl rfl 19 (by decide) (by decide +kernel) rfl rfl dX7_table_141 144 rfl ?_
                        refine g_iload_n C dX7_table_144 145 rfl rfl ?_
                        refine g_lload C dX7_table_145 147 rfl rfl ?_
                        refine g_last C 4 1 rfl rfl i rfl (by omega) (by decide) dX7_table_147 148 rfl (ws' := [(g0, .inr (11, [.int (nI 0), .int (nI mn), .ref g1, .ref g2, .int (nI mb), .ref g3, .ref g4, .ref g5, .int (nI mw), .ref g6, .ref g7, .ref g8, .ref g9, .ref g10, .long msa, .long msb, .ref g11, .ref g12, .ref g13, .ref g14, .ref g15, .int (nI mz), .ref g16, .ref g17, .ref g18, .int (nI mv), .ref g19, .int (nI my), .ref g20, .ref g21, .ref g22, .int wt, .int wr, .int fo])), (g11, .inl (cZ, 10, .inl (upd td i 1))), (g12, .inl (cJ, 10, .inr (.inl (vp_updL mar i y)))), (g13, .inl (cJ, 10, .inr (.inl (vp_updL mam i z)))), (g14, .inl (cJ, 10, .inr (.inl (vp_updL moh i q))))]) rfl ?_
                        refine g_iload C dX7_table_148 150 rfl rfl ?_
                        refine g_if_ne_n C dX7_table_150 157 153 (by decide) rfl (by omega) (fun c150 => ?_) (fun c150 => ?_)
                        · exact absurd c150 (by omega)
                        · refine g_iconst (v := nI 1) C dX7_table_153 154 rfl (by decide) ?_
                          refine g_goto C dX7_table_154 158 (by decide) ?_
                          exact g_zret C hQ (Nat.le_of_ble_eq_true rfl) (Nat.le_of_ble_eq_true rfl) dX7_table_158 rfl (0, upd td i 1, vp_updL mar i y, vp_updL mam i z, vp_updL moh i q) (Or.inr (Or.inr ⟨rfl, hrx, ⟨wiB_t c4, wiB_t c12, wiB_t c20⟩, by rw [cN_nI (by omega)]; simp [bI, nI_one, nI_0, c73, c83, c95, c107], by rw [cN_nI (by omega)], by rw [cN_nI (by omega)], by rw [cN_nI (by omega)], by rw [cN_nI (by omega)]⟩)) (by first | (dsimp only; done) | rfl)
                      · refine g_iconst (v := nI 1) C dX7_table_111 112 rfl (by decide) ?_
                        refine g_goto C dX7_table_112 116 (by decide) ?_
                        refine g_istore C dX7_table_116 118 rfl (by decide) [1, 2, 3, 4, 5, 6, 0] (lv' := [(0, .ref g0), (1, .int (nI i)), (2, .long y), (4, .long z), (6, .long q), (8, .int (nI 1)), (9, .int (nI 1))]) rfl ?_
                        refine g_aload_n C dX7_table_118 119 rfl rfl ?_
                        refine g_get C iw_X7_table_X7 0 rfl rfl 16 (by decide) (by decide +kernel) rfl rfl dX7_table_119 122 rfl ?_
                        refine g_iload_n C dX7_table_122 123 rfl rfl ?_
                        refine g_iconst (v := nI 1) C dX7_table_123 124 rfl (by decide) ?_
                        refine g_zast C 1 3 rfl rfl i rfl (by omega) (by decide) dX7_table_124 125 rfl (ws' := [(g0, .inr (11, [.int (nI 0), .int (nI mn), .ref g1, .ref g2, .int (nI mb), .ref g3, .ref g4, .ref g5, .int (nI mw), .ref g6, .ref g7, .ref g8, .ref g9, .ref g10, .long msa, .long msb, .ref g11, .ref g12, .ref g13, .ref g14, .ref g15, .int (nI mz), .ref g16, .ref g17, .ref g18, .int (nI mv), .ref g19, .int (nI my), .ref g20, .ref g21, .ref g22, .int wt, .int wr, .int fo])), (g11, .inl (cZ, 10, .inl (upd td i 1))), (g12, .inl (cJ, 10, .inr (.inl mar))), (g13, .inl (cJ, 10, .inr (.inl mam))), (g14, .inl (cJ, 10, .inr (.inl moh)))]) rfl ?_
                        refine g_aload_n C dX7_table_125 126 rfl rfl ?_
                        refine g_get C iw_X7_table_X7 0 rfl rfl 17 (by decide) (by decide +kernel) rfl rfl dX7_table_126 129 rfl ?_
                        refine g_iload_n C dX7_table_129 130 rfl rfl ?_
                        refine g_lload_n C dX7_table_130 131 rfl rfl ?_
                        refine g_last C 2 1 rfl rfl i rfl (by omega) (by decide) dX7_table_131 132 rfl (ws' := [(g0, .inr (11, [.int (nI 0), .int (nI mn), .ref g1, .ref g2, .int (nI mb), .ref g3, .ref g4, .ref g5, .int (nI mw), .ref g6, .ref g7, .ref g8, .ref g9, .ref g10, .long msa, .long msb, .ref g11, .ref g12, .ref g13, .ref g14, .ref g15, .int (nI mz), .ref g16, .ref g17, .ref g18, .int (nI mv), .ref g19, .int (nI my), .ref g20, .ref g21, .ref g22, .int wt, .int wr, .int fo])), (g11, .inl (cZ, 10, .inl (upd td i 1))), (g12, .inl (cJ, 10, .inr (.inl (vp_updL mar i y)))), (g13, .inl (cJ, 10, .inr (.inl mam))), (g14, .inl (cJ, 10, .inr (.inl moh)))]) rfl ?_
                        refine g_aload_n C dX7_table_132 133 rfl rfl ?_
                        refine g_get C iw_X7_table_X7 0 rfl rfl 18 (by decide) (by decide +kernel) rfl rfl dX7_table_133 136 rfl ?_
                        refine g_iload_n C dX7_table_136 137 rfl rfl ?_
                        refine g_lload C dX7_table_137 139 rfl rfl ?_
                        refine g_last C 3 1 rfl rfl i rfl (by omega) (by decide) dX7_table_139 140 rfl (ws' := [(g0, .inr (11, [.int (nI 0), .int (nI mn), .ref g1, .ref g2, .int (nI mb), .ref g3, .ref g4, .ref g5, .int (nI mw), .ref g6, .ref g7, .ref g8, .ref g9, .ref g10, .long msa, .long msb, .ref g11, .ref g12, .ref g13, .ref g14, .ref g15, .int (nI mz), .ref g16, .ref g17, .ref g18, .int (nI mv), .ref g19, .int (nI my), .ref g20, .ref g21, .ref g22, .int wt, .int wr, .int fo])), (g11, .inl (cZ, 10, .inl (upd td i 1))), (g12, .inl (cJ, 10, .inr (.inl (vp_updL mar i y)))), (g13, .inl (cJ, 10, .inr (.inl (vp_updL mam i z)))), (g14, .inl (cJ, 10, .inr (.inl moh)))]) rfl ?_
                        refine g_aload_n C dX7_table_140 141 rfl rfl ?_
                        refine g_get C iw_X7_table_X7 0 rfl rfl 19 (by decide) (by decide +kernel) rfl rfl dX7_table_141 144 rfl ?_
                        refine g_iload_n C dX7_table_144 145 rfl rfl ?_
                        refine g_lload C dX7_table_145 147 rfl rfl ?_
                        refine g_last C 4 1 rfl rfl i rfl (by omega) (by decide) dX7_table_147 148 rfl (ws' := [(g0, .inr (11, [.int (nI 0), .int (nI mn), .ref g1, .ref g2, .int (nI mb), .ref g3, .ref g4, .ref g5, .int (nI mw), .ref g6, .ref g7, .ref g8, .ref g9, .ref g10, .long msa, .long msb, .ref g11, .ref g12, .ref g13, .ref g14, .ref g15, .int (nI mz), .ref g16, .ref g17, .ref g18, .int (nI mv), .ref g19, .int (nI my), .ref g20, .ref g21, .ref g22, .int wt, .int wr, .int fo])), (g11, .inl (cZ, 10, .inl (upd td i 1))), (g12, .inl (cJ, 10, .inr (.inl (vp_updL mar i y)))), (g13, .inl (cJ, 10, .inr (.inl (vp_updL mam i z)))), (g14, .inl (cJ, 10, .inr (.inl (vp_updL moh i q))))]) rfl ?_
                        refine g_iload C dX7_table_148 150 rfl rfl ?_
                        refine g_if_ne_n C dX7_table_150 157 153 (by decide) rfl (by omega) (fun c150 => ?_) (fun c150 => ?_)
                        · refine g_iconst (v := nI 0) C dX7_table_157 158 rfl (by decide) ?_
                          exact g_zret C hQ (Nat.le_of_ble_eq_true rfl) (Nat.le_of_ble_eq_true rfl) dX7_table_158 rfl (0, upd td i 1, vp_updL mar i y, vp_updL mam i z, vp_updL moh i q) (Or.inr (Or.inr ⟨rfl, hrx, ⟨wiB_t c4, wiB_t c12, wiB_t c20⟩, by rw [cN_nI (by omega)]; simp [bI, nI_one, nI_0, c73, c83, c95, c107], by rw [cN_nI (by omega)], by rw [cN_nI (by omega)], by rw [cN_nI (by omega)], by rw [cN_nI (by omega)]⟩)) (by first | (dsimp only; done) | rfl)
                        · exact absurd c150 (by omega)
              · exact absurd c62 (by omega)
          · refine g_iconst (v := nI 1) C dX7_table_41 42 rfl (by decide) ?_
            refine g_goto C dX7_table_42 55 (by decide) ?_
            refine g_put C (ty := .int) iw_X7_table_X7 tyX7 tyX7_ok nmX7 0 rfl rfl 0 (by decide) (by decide +kernel) rfl rfl (by decide +kernel) rfl rfl (Nat.le_of_ble_eq_true rfl) dX7_table_55 58 rfl (ws' := [(g0, .inr (11, [.int (nI 1), .int (nI mn), .ref g1, .ref g2, .int (nI mb), .ref g3, .ref g4, .ref g5, .int (nI mw), .ref g6, .ref g7, .ref g8, .ref g9, .ref g10, .long msa, .long msb, .ref g11, .ref g12, .ref g13, .ref g14, .ref g15, .int (nI mz), .ref g16, .ref g17, .ref g18, .int (nI mv), .ref g19, .int (nI my), .ref g20, .ref g21, .ref g22, .int wt, .int wr, .int fo])), (g11, .inl (cZ, 10, .inl td)), (g12, .inl (cJ, 10, .inr (.inl mar))), (g13, .inl (cJ, 10, .inr (.inl mam))), (g14, .inl (cJ, 10, .inr (.inl moh)))]) rfl ?_
            refine g_aload_n C dX7_table_58 59 rfl rfl ?_
            refine g_get C iw_X7_table_X7 0 rfl rfl 0 (by decide) (by decide +kernel) rfl rfl dX7_table_59 62 rfl ?_
            refine g_if_eq_n C dX7_table_62 67 65 (by decide) rfl (by omega) (fun c62 => ?_) (fun c62 => ?_)
            · exact absurd c62 (by omega)
            · refine g_iconst (v := nI 0) C dX7_table_65 66 rfl (by decide) ?_
              exact g_zret C hQ (Nat.le_of_ble_eq_true rfl) (Nat.le_of_ble_eq_true rfl) dX7_table_66 rfl (1, td, mar, mam, moh) (Or.inl ⟨rfl, inR_no (by omega) (Or.inr c38), rfl, rfl, rfl, rfl⟩) (by first | (dsimp only; done) | rfl)
