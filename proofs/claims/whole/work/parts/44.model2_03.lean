theorem iw_X7_has_X7 : ∀ w ∈ wsX70, w ∈ wsX7_has := by decide +kernel
set_option maxHeartbeats 4000000 in
set_option maxRecDepth 100000 in
theorem c_X7_has (l : Launch) (D : va_G) (cI cJ cB cZ : ClassId) (sz : Nat) (g0 : Nat) (g1 : Nat) (g2 : Nat) (g3 : Nat) (g4 : Nat) (g5 : Nat) (g6 : Nat) (g7 : Nat) (g8 : Nat) (g9 : Nat) (g10 : Nat) (g11 : Nat) (g12 : Nat) (g13 : Nat) (g14 : Nat) (g15 : Nat) (g16 : Nat) (g17 : Nat) (g18 : Nat) (g19 : Nat) (g20 : Nat) (g21 : Nat) (g22 : Nat) (th : Nat) (mn : Nat) (mb : Nat) (mw : Nat) (mz : Nat) (mv : Nat) (my : Nat) (msa : Int64) (msb : Int64) (wt : Int32) (wr : Int32) (fo : Int32) (mk : Nat → Nat) (x : Int32) (y : Int32) (on : Bool) (h6 : mv ≤ 6) (hmw : mw ≤ 24) (hmk : ∀ k, k < 144 → mk k ≤ 2) : Met l yX7_has wsX7_has ({ frames := 1, cells := 0, slots := 0, locals := 23 }) (va_Pc [.ref g0, .int x, .int y, .int (bI on)] (pW D (TY cI cJ cB cZ) [(g0, .inr (11, [.int (nI th), .int (nI mn), .ref g1, .ref g2, .int (nI mb), .ref g3, .ref g4, .ref g5, .int (nI mw), .ref g6, .ref g7, .ref g8, .ref g9, .ref g10, .long msa, .long msb, .ref g11, .ref g12, .ref g13, .ref g14, .ref g15, .int (nI mz), .ref g16, .ref g17, .ref g18, .int (nI mv), .ref g19, .int (nI my), .ref g20, .ref g21, .ref g22, .int wt, .int wr, .int fo])), (g19, .inl (cI, 144, .inl (fun jj => nI (mk jj))))] (fun _ => True) sz)) (va_Qi (fun (rv : Int32) (u : Nat × (Nat → Nat)) => (u.1 = 1 ∧ ¬ (inR x mv ∧ inR y mw) ∧ u.2 = mk) ∨ (u.1 = 0 ∧ (inR x mv ∧ inR y mw) ∧ rv = bI (!(decide (mon mk (cN y) (cN x + 1) = on))) ∧ u.2 = updN mk (24 * cN x + cN y) (if on = true then 1 else 2))) (qW D (TY cI cJ cB cZ) (va_A [(g0, .inr (11, [.int (nI th), .int (nI mn), .ref g1, .ref g2, .int (nI mb), .ref g3, .ref g4, .ref g5, .int (nI mw), .ref g6, .ref g7, .ref g8, .ref g9, .ref g10, .long msa, .long msb, .ref g11, .ref g12, .ref g13, .ref g14, .ref g15, .int (nI mz), .ref g16, .ref g17, .ref g18, .int (nI mv), .ref g19, .int (nI my), .ref g20, .ref g21, .ref g22, .int wt, .int wr, .int fo])), (g19, .inl (cI, 144, .inl (fun jj => nI (mk jj))))] sz) (fun u => [(g0, .inr (11, [.int (nI u.1), .int (nI mn), .ref g1, .ref g2, .int (nI mb), .ref g3, .ref g4, .ref g5, .int (nI mw), .ref g6, .ref g7, .ref g8, .ref g9, .ref g10, .long msa, .long msb, .ref g11, .ref g12, .ref g13, .ref g14, .ref g15, .int (nI mz), .ref g16, .ref g17, .ref g18, .int (nI mv), .ref g19, .int (nI my), .ref g20, .ref g21, .ref g22, .int wt, .int wr, .int fo])), (g19, .inl (cI, 144, .inl (fun jj => nI (u.2 jj))))])) (va_A [(g0, .inr (11, [.int (nI th), .int (nI mn), .ref g1, .ref g2, .int (nI mb), .ref g3, .ref g4, .ref g5, .int (nI mw), .ref g6, .ref g7, .ref g8, .ref g9, .ref g10, .long msa, .long msb, .ref g11, .ref g12, .ref g13, .ref g14, .ref g15, .int (nI mz), .ref g16, .ref g17, .ref g18, .int (nI mv), .ref g19, .int (nI my), .ref g20, .ref g21, .ref g22, .int wt, .int wr, .int fo])), (g19, .inl (cI, 144, .inl (fun jj => nI (mk jj))))] sz)) 0 0 (va_A [(g0, .inr (11, [.int (nI th), .int (nI mn), .ref g1, .ref g2, .int (nI mb), .ref g3, .ref g4, .ref g5, .int (nI mw), .ref g6, .ref g7, .ref g8, .ref g9, .ref g10, .long msa, .long msb, .ref g11, .ref g12, .ref g13, .ref g14, .ref g15, .int (nI mz), .ref g16, .ref g17, .ref g18, .int (nI mv), .ref g19, .int (nI my), .ref g20, .ref g21, .ref g22, .int wt, .int wr, .int fo])), (g19, .inl (cI, 144, .inl (fun jj => nI (mk jj))))] sz) := by
  refine gx_met RX7 rfl (by decide) rfl (Nat.le_of_ble_eq_true rfl) ?_
  intro X hl hDx hAx C hQ hXP hsz hin
  subst hl; subst hDx
  rw [← hAx] at hQ
  refine g_lv [0, 1, 2, 3] (lv' := [(0, .ref g0), (1, .int x), (2, .int y), (3, .int (bI on))]) rfl ?_
  refine g_aload_n C dX7_has_0 1 rfl rfl ?_
  refine g_iload_n C dX7_has_1 2 rfl rfl ?_
  refine g_if_lt C dX7_has_2 25 5 (by decide) rfl (fun c2 => ?_) (fun c2 => ?_)
  · refine g_iconst (v := nI 1) C dX7_has_25 26 rfl (by decide) ?_
    refine g_put C (ty := .int) iw_X7_has_X7 tyX7 tyX7_ok nmX7 0 rfl rfl 0 (by decide) (by decide +kernel) rfl rfl (by decide +kernel) rfl rfl (Nat.le_of_ble_eq_true rfl) dX7_has_26 29 rfl (ws' := [(g0, .inr (11, [.int (nI 1), .int (nI mn), .ref g1, .ref g2, .int (nI mb), .ref g3, .ref g4, .ref g5, .int (nI mw), .ref g6, .ref g7, .ref g8, .ref g9, .ref g10, .long msa, .long msb, .ref g11, .ref g12, .ref g13, .ref g14, .ref g15, .int (nI mz), .ref g16, .ref g17, .ref g18, .int (nI mv), .ref g19, .int (nI my), .ref g20, .ref g21, .ref g22, .int wt, .int wr, .int fo])), (g19, .inl (cI, 144, .inl (fun jj => nI (mk jj))))]) rfl ?_
    refine g_aload_n C dX7_has_29 30 rfl rfl ?_
    refine g_get C iw_X7_has_X7 0 rfl rfl 0 (by decide) (by decide +kernel) rfl rfl dX7_has_30 33 rfl ?_
    refine g_if_eq_n C dX7_has_33 38 36 (by decide) rfl (by omega) (fun c33 => ?_) (fun c33 => ?_)
    · exact absurd c33 (by omega)
    · refine g_iconst (v := nI 0) C dX7_has_36 37 rfl (by decide) ?_
      exact g_zret C hQ (Nat.le_of_ble_eq_true rfl) (Nat.le_of_ble_eq_true rfl) dX7_has_37 rfl (1, mk) (Or.inl ⟨rfl, fun q => inR_no (n := mv) (by omega) (Or.inl c2) q.1, rfl⟩) (by first | (dsimp only; done) | rfl)
  · refine g_iload_n C dX7_has_5 6 rfl rfl ?_
    refine g_aload_n C dX7_has_6 7 rfl rfl ?_
    refine g_get C iw_X7_has_X7 0 rfl rfl 25 (by decide) (by decide +kernel) rfl rfl dX7_has_7 10 rfl ?_
    refine g_icmp_ge C dX7_has_10 25 13 (by decide) rfl (fun c10 => ?_) (fun c10 => ?_)
    · refine g_iconst (v := nI 1) C dX7_has_25 26 rfl (by decide) ?_
      refine g_put C (ty := .int) iw_X7_has_X7 tyX7 tyX7_ok nmX7 0 rfl rfl 0 (by decide) (by decide +kernel) rfl rfl (by decide +kernel) rfl rfl (Nat.le_of_ble_eq_true rfl) dX7_has_26 29 rfl (ws' := [(g0, .inr (11, [.int (nI 1), .int (nI mn), .ref g1, .ref g2, .int (nI mb), .ref g3, .ref g4, .ref g5, .int (nI mw), .ref g6, .ref g7, .ref g8, .ref g9, .ref g10, .long msa, .long msb, .ref g11, .ref g12, .ref g13, .ref g14, .ref g15, .int (nI mz), .ref g16, .ref g17, .ref g18, .int (nI mv), .ref g19, .int (nI my), .ref g20, .ref g21, .ref g22, .int wt, .int wr, .int fo])), (g19, .inl (cI, 144, .inl (fun jj => nI (mk jj))))]) rfl ?_
      refine g_aload_n C dX7_has_29 30 rfl rfl ?_
      refine g_get C iw_X7_has_X7 0 rfl rfl 0 (by decide) (by decide +kernel) rfl rfl dX7_has_30 33 rfl ?_
      refine g_if_eq_n C dX7_has_33 38 36 (by decide) rfl (by omega) (fun c33 => ?_) (fun c33 => ?_)
      · exact absurd c33 (by omega)
      · refine g_iconst (v := nI 0) C dX7_has_36 37 rfl (by decide) ?_
        exact g_zret C hQ (Nat.le_of_ble_eq_true rfl) (Nat.le_of_ble_eq_true rfl) dX7_has_37 rfl (1, mk) (Or.inl ⟨rfl, fun q => inR_no (by omega) (Or.inr (Int32.not_lt.mpr c10)) q.1, rfl⟩) (by first | (dsimp only; done) | rfl)
    · refine g_aload_n C dX7_has_13 14 rfl rfl ?_
      refine g_iload_n C dX7_has_14 15 rfl rfl ?_
      refine g_callVi (ci := 11) (q0 := 0) (As := [.int y]) (rest := [.ref g0]) (wr := [(g19, .inl (cI, 144, .inl (fun jj => nI (mk jj))))]) (ws' := fun (_ : Unit) => [(g0, .inr (11, [.int (nI th), .int (nI mn), .ref g1, .ref g2, .int (nI mb), .ref g3, .ref g4, .ref g5, .int (nI mw), .ref g6, .ref g7, .ref g8, .ref g9, .ref g10, .long msa, .long msb, .ref g11, .ref g12, .ref g13, .ref g14, .ref g15, .int (nI mz), .ref g16, .ref g17, .ref g18, .int (nI mv), .ref g19, .int (nI my), .ref g20, .ref g21, .ref g22, .int wt, .int wr, .int fo])), (g19, .inl (cI, 144, .inl (fun jj => nI (mk jj))))]) C (fun sz => c_X7_isWire _ _ cI cJ cB cZ sz g0 g1 g2 g3 g4 g5 g6 g7 g8 g9 g10 g11 g12 g13 g14 g15 g16 g17 g18 g19 g20 g21 g22 th mn mb mw mz mv my msa msb wt wr fo y ) gx_XP0 1 gX7_has_X7_isWire rfl rfl rfl (by decide +kernel) ⟨Nat.le_of_ble_eq_true rfl, Nat.le_of_ble_eq_true rfl⟩ rfl rfl [0] [1] [1, 0] rfl (by decide) rfl (by decide) (by decide) (fun _ => rfl) (by decide) rfl rfl (Nat.le_of_ble_eq_true rfl) dX7_has_15 ⟨Nat.le_of_ble_eq_true rfl, Nat.le_of_ble_eq_true rfl⟩ 18 rfl (eqk ?_)
      refine g_if_eq_b C dX7_has_18 25 21 (by decide) rfl (fun c18 => ?_) (fun c18 => ?_)
      · refine g_iconst (v := nI 1) C dX7_has_25 26 rfl (by decide) ?_
        refine g_put C (ty := .int) iw_X7_has_X7 tyX7 tyX7_ok nmX7 0 rfl rfl 0 (by decide) (by decide +kernel) rfl rfl (by decide +kernel) rfl rfl (Nat.le_of_ble_eq_true rfl) dX7_has_26 29 rfl (ws' := [(g0, .inr (11, [.int (nI 1), .int (nI mn), .ref g1, .ref g2, .int (nI mb), .ref g3, .ref g4, .ref g5, .int (nI mw), .ref g6, .ref g7, .ref g8, .ref g9, .ref g10, .long msa, .long msb, .ref g11, .ref g12, .ref g13, .ref g14, .ref g15, .int (nI mz), .ref g16, .ref g17, .ref g18, .int (nI mv), .ref g19, .int (nI my), .ref g20, .ref g21, .ref g22, .int wt, .int wr, .int fo])), (g19, .inl (cI, 144, .inl (fun jj => nI (mk jj))))]) rfl ?_
        refine g_aload_n C dX7_has_29 30 rfl rfl ?_
        refine g_get C iw_X7_has_X7 0 rfl rfl 0 (by decide) (by decide +kernel) rfl rfl dX7_has_30 33 rfl ?_
        refine g_if_eq_n C dX7_has_33 38 36 (by decide) rfl (by omega) (fun c33 => ?_) (fun c33 => ?_)
        · exact absurd c33 (by omega)
        · refine g_iconst (v := nI 0) C dX7_has_36 37 rfl (by decide) ?_
          exact g_zret C hQ (Nat.le_of_ble_eq_true rfl) (Nat.le_of_ble_eq_true rfl) dX7_has_37 rfl (1, mk) (Or.inl ⟨rfl, fun q => inB_f (by omega) c18 q.2, rfl⟩) (by first | (dsimp only; done) | rfl)
      · refine g_iconst (v := nI 0) C dX7_has_21 22 rfl (by decide) ?_
        refine g_goto C dX7_has_22 26 (by decide) ?_
        refine g_put C (ty := .int) iw_X7_has_X7 tyX7 tyX7_ok nmX7 0 rfl rfl 0 (by decide) (by decide +kernel) rfl rfl (by decide +kernel) rfl rfl (Nat.le_of_ble_eq_true rfl) dX7_has_26 29 rfl (ws' := [(g0, .inr (11, [.int (nI 0), .int (nI mn), .ref g1, .ref g2, .int (nI mb), .ref g3, .ref g4, .ref g5, .int (nI mw), .ref g6, .ref g7, .ref g8, .ref g9, .ref g10, .long msa, .long msb, .ref g11, .ref g12, .ref g13, .ref g14, .ref g15, .int (nI mz), .ref g16, .ref g17, .ref g18, .int (nI mv), .ref g19, .int (nI my), .ref g20, .ref g21, .ref g22, .int wt, .int wr, .int fo])), (g19, .inl (cI, 144, .inl (fun jj => nI (mk jj))))]) rfl ?_
        refine g_aload_n C dX7_has_29 30 rfl rfl ?_
        refine g_get C iw_X7_has_X7 0 rfl rfl 0 (by decide) (by decide +kernel) rfl rfl dX7_has_30 33 rfl ?_
        refine g_if_eq_n C dX7_has_33 38 36 (by decide) rfl (by omega) (fun c33 => ?_) (fun c33 => ?_)
        · have hrx := inR_yes (n := mv) (by omega) c2 (Int32.not_le.mp c10)
          have hry := inB_t (by omega) c18
          obtain ⟨i, hi, rfl⟩ := id hrx
          obtain ⟨j, hj, rfl⟩ := id hry
          refine g_aload_n C dX7_has_38 39 rfl rfl ?_
          refine g_iload_n C dX7_has_39 40 rfl rfl ?_
          refine g_iload_n C dX7_has_40 41 rfl rfl ?_
          refine g_callVi (ci := 11) (q0 := 0) (As := [.int (nI i), .int (nI j)]) (rest := []) (wr := []) (ws' := fun (_ : Unit) => [(g0, .inr (11, [.int (nI 0), .int (nI mn), .ref g1, .ref g2, .int (nI mb), .ref g3, .ref g4, .ref g5, .int (nI mw), .ref g6, .ref g7, .ref g8, .ref g9, .ref g10, .long msa, .long msb, .ref g11, .ref g12, .ref g13, .ref g14, .ref g15, .int (nI mz), .ref g16, .ref g17, .ref g18, .int (nI mv), .ref g19, .int (nI my), .ref g20, .ref g21, .ref g22, .int wt, .int wr, .int fo])), (g19, .inl (cI, 144, .inl (fun jj => nI (mk jj))))]) C (fun sz => c_X7_isOn _ _ cI cJ cB cZ sz g0 g1 g2 g3 g4 g5 g6 g7 g8 g9 g10 g11 g12 g13 g14 g15 g16 g17 g18 g19 g20 g21 g22 0 mn mb mw mz mv my msa msb wt wr fo mk i j (by omega) (by omega) hmk) gx_XP0 2 gX7_has_X7_isOn rfl rfl rfl (by decide +kernel) ⟨Nat.le_of_ble_eq_true rfl, Nat.le_of_ble_eq_true rfl⟩ rfl rfl [0, 1] [] [0, 1] rfl (by decide) rfl (by decide) (by decide) (fun _ => rfl) (by decide) rfl rfl (Nat.le_of_ble_eq_true rfl) dX7_has_41 ⟨Nat.le_of_ble_eq_true rfl, Nat.le_of_ble_eq_true rfl⟩ 44 rfl (eqk ?_)
          refine g_iload_n C dX7_has_44 45 rfl rfl ?_
          refine g_icmp_eq C dX7_has_45 52 48 (by decide) rfl (fun c45 => ?_) (fun c45 => ?_)
          · refine g_iconst (v := nI 0) C dX7_has_52 53 rfl (by decide) ?_
            refine g_istore C dX7_has_53 55 rfl (by decide) [1, 2, 3, 4, 0] (lv' := [(0, .ref g0), (1, .int (nI i)), (2, .int (nI j)), (3, .int (bI on)), (4, .int (nI 0))]) rfl ?_
            refine g_aload_n C dX7_has_55 56 rfl rfl ?_
            refine g_get C iw_X7_has_X7 0 rfl rfl 26 (by decide) (by decide +kernel) rfl rfl dX7_has_56 59 rfl ?_
            refine g_bipush (v := nI 24) C dX7_has_59 61 rfl (by decide) ?_
            refine g_iload_n C dX7_has_61 62 rfl rfl ?_
            refine g_imuln C dX7_has_62 63 rfl ?_
            refine g_iload_n C dX7_has_63 64 rfl rfl ?_
            refine g_iaddn C dX7_has_64 65 rfl ?_
            refine g_iload_n C dX7_has_65 66 rfl rfl ?_
            refine g_if_eq_b C dX7_has_66 73 69 (by decide) rfl (fun c66 => ?_) (fun c66 => ?_)
            · refine g_iconst (v := nI 2) C dX7_has_73 74 rfl (by decide) ?_
              refine g_iast C 1 0 rfl rfl ((24 * i) + j) rfl (by omega) (by decide) dX7_has_74 75 rfl (ws' := [(g0, .inr (11, [.int (nI 0), .int (nI mn), .ref g1, .ref g2, .int (nI mb), .ref g3, .ref g4, .ref g5, .int (nI mw), .ref g6, .ref g7, .ref g8, .ref g9, .ref g10, .long msa, .long msb, .ref g11, .ref g12, .ref g13, .ref g14, .ref g15, .int (nI mz), .ref g16, .ref g17, .ref g18, .int (nI mv), .ref g19, .int (nI my), .ref g20, .ref g21, .ref g22, .int wt, .int wr, .int fo])), (g19, .inl (cI, 144, .inl (fun jj => nI ((updN mk ((24 * i) + j) 2) jj))))]) (by rw [upd_nI]; rfl) ?_
              refine g_iload C dX7_has_75 77 rfl rfl ?_
              exact g_zret C hQ (Nat.le_of_ble_eq_true rfl) (Nat.le_of_ble_eq_true rfl) dX7_has_77 rfl (0, updN mk ((24 * i) + j) 2) (Or.inr ⟨rfl, ⟨hrx, hry⟩, by rw [cN_nI (by omega), cN_nI (by omega)]; rw [bI_inj] at c45; simp [bI, nI_one, nI_0, c45], by rw [cN_nI (by omega), cN_nI (by omega)]; simp [c66]⟩) (by first | (dsimp only; done) | rfl)
            · refine g_iconst (v := nI 1) C dX7_has_69 70 rfl (by decide) ?_
              refine g_goto C dX7_has_70 74 (by decide) ?_
              refine g_iast C 1 0 rfl rfl ((24 * i) + j) rfl (by omega) (by decide) dX7_has_74 75 rfl (ws' := [(g0, .inr (11, [.int (nI 0), .int (nI mn), .ref g1, .ref g2, .int (nI mb), .ref g3, .ref g4, .ref g5, .int (nI mw), .ref g6, .ref g7, .ref g8, .ref g9, .ref g10, .long msa, .long msb, .ref g11, .ref g12, .ref g13, .ref g14, .ref g15, .int (nI mz), .ref g16, .ref g17, .ref g18, .int (nI mv), .ref g19, .int (nI my), .ref g20, .ref g21, .ref g22, .int wt, .int wr, .int fo])), (g19, .inl (cI, 144, .inl (fun jj => nI ((updN mk ((24 * i) + j) 1) jj))))]) (by rw [upd_nI]; rfl) ?_
              refine g_iload C dX7_has_75 77 rfl rfl ?_
              exact g_zret C hQ (Nat.le_of_ble_eq_true rfl) (Nat.le_of_ble_eq_true rfl) dX7_has_77 rfl (0, updN mk ((24 * i) + j) 1) (Or.inr ⟨rfl, ⟨hrx, hry⟩, by rw [cN_nI (by omega), cN_nI (by omega)]; rw [bI_inj] at c45; simp [bI, nI_one, nI_0, c45], by rw [cN_nI (by omega), cN_nI (by omega)]; simp [c66]⟩) (by first | (dsimp only; done) | rfl)
          · refine g_iconst (v := nI 1) C dX7_has_48 49 rfl (by decide) ?_
            refine g_goto C dX7_has_49 53 (by decide) ?_
            refine g_istore C dX7_has_53 55 rfl (by decide) [1, 2, 3, 4, 0] (lv' := [(0, .ref g0), (1, .int (nI i)), (2, .int (nI j)), (3, .int (bI on)), (4, .int (nI 1))]) rfl ?_
            refine g_aload_n C dX7_has_55 56 rfl rfl ?_
            refine g_get C iw_X7_has_X7 0 rfl rfl 26 (by decide) (by decide +kernel) rfl rfl dX7_has_56 59 rfl ?_
            refine g_bipush (v := nI 24) C dX7_has_59 61 rfl (by decide) ?_
            refine g_iload_n C dX7_has_61 62 rfl rfl ?_
            refine g_imuln C dX7_has_62 63 rfl ?_
            refine g_iload_n C dX7_has_63 64 rfl rfl ?_
            refine g_iaddn C dX7_has_64 65 rfl ?_
            refine g_iload_n C dX7_has_65 66 rfl rfl ?_
            refine g_if_eq_b C dX7_has_66 73 69 (by decide) rfl (fun c66 => ?_) (fun c66 => ?_)
            · refine g_iconst (v := nI 2) C dX7_has_73 74 rfl (by decide) ?_
              refine g_iast C 1 0 rfl rfl ((24 * i) + j) rfl (by omega) (by decide) dX7_has_74 75 rfl (ws' := [(g0, .inr (11, [.int (nI 0), .int (nI mn), .ref g1, .ref g2, .int (nI mb), .ref g3, .ref g4, .ref g5, .int (nI mw), .ref g6, .ref g7, .ref g8, .ref g9, .ref g10, .long msa, .long msb, .ref g11, .ref g12, .ref g13, .ref g14, .ref g15, .int (nI mz), .ref g16, .ref g17, .ref g18, .int (nI mv), .ref g19, .int (nI my), .ref g20, .ref g21, .ref g22, .int wt, .int wr, .int fo])), (g19, .inl (cI, 144, .inl (fun jj => nI ((updN mk ((24 * i) + j) 2) jj))))]) (by rw [upd_nI]; rfl) ?_
              refine g_iload C dX7_has_75 77 rfl rfl ?_
              exact g_zret C hQ (Nat.le_of_ble_eq_true rfl) (Nat.le_of_ble_eq_true rfl) dX7_has_77 rfl (0, updN mk ((24 * i) + j) 2) (Or.inr ⟨rfl, ⟨hrx, hry⟩, by rw [cN_nI (by omega), cN_nI (by omega)]; rw [bI_inj] at c45; simp [bI, nI_one, nI_0, c45], by rw [cN_nI (by omega), cN_nI (by omega)]; simp [c66]⟩) (by first | (dsimp only; done) | rfl)
            · refine g_iconst (v := nI 1) C dX7_has_69 70 rfl (by decide) ?_
              refine g_goto C dX7_has_70 74 (by decide) ?_
              refine g_iast C 1 0 rfl rfl ((24 * i) + j) rfl (by omega) (by decide) dX7_has_74 75 rfl (ws' := [(g0, .inr (11, [.int (nI 0), .int (nI mn), .ref g1, .ref g2, .int (nI mb), .ref g3, .ref g4, .ref g5, .int (nI mw), .ref g6, .ref g7, .ref g8, .ref g9, .ref g10, .long msa, .long msb, .ref g11, .ref g12, .ref g13, .ref g14, .ref g15, .int (nI mz), .ref g16, .ref g17, .ref g18, .int (nI mv), .ref g19, .int (nI my), .ref g20, .ref g21, .ref g22, .int wt, .int wr, .int fo])), (g19, .inl (cI, 144, .inl (fun jj => nI ((updN mk ((24 * i) + j) 1) jj))))]) (by rw [upd_nI]; rfl) ?_
              refine g_iload C dX7_has_75 77 rfl rfl ?_
              exact g_zret C hQ (Nat.le_of_ble_eq_true rfl) (Nat.le_of_ble_eq_true rfl) dX7_has_77 rfl (0, updN mk ((24 * i) + j) 1) (Or.inr ⟨rfl, ⟨hrx, hry⟩, by rw [cN_nI (by omega), cN_nI (by omega)]; rw [bI_inj] at c45; simp [bI, nI_one, nI_0, c45], by rw [cN_nI (by omega), cN_nI (by omega)]; simp [c66]⟩) (by first | (dsimp only; done) | rfl)
        · exact absurd c33 (by omega)
