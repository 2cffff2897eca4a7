theorem iw_X7_splice_X7 : ∀ w ∈ wsX70, w ∈ wsX7_splice := by decide +kernel
set_option maxHeartbeats 4000000 in
set_option maxRecDepth 100000 in
theorem c_X7_splice (l : Launch) (D : va_G) (cI cJ cB cZ : ClassId) (sz : Nat) (g0 : Nat) (g1 : Nat) (g2 : Nat) (g3 : Nat) (g4 : Nat) (g5 : Nat) (g6 : Nat) (g7 : Nat) (g8 : Nat) (g9 : Nat) (g10 : Nat) (g11 : Nat) (g12 : Nat) (g13 : Nat) (g14 : Nat) (g15 : Nat) (g16 : Nat) (g17 : Nat) (g18 : Nat) (g19 : Nat) (g20 : Nat) (g21 : Nat) (g22 : Nat) (th : Nat) (mn : Nat) (mb : Nat) (mw : Nat) (mz : Nat) (mv : Nat) (my : Nat) (msa : Int64) (msb : Int64) (wt : Int32) (wr : Int32) (fo : Int32) (pA : Nat → Nat) (pB : Nat → Nat) (x : Int32) (y : Int32) (hmw : mw ≤ 24) (hz : mz ≤ 20) (hpA : ∀ k, k < mz → pA k < 24) (hpB : ∀ k, k < mz → pB k < 24) : Met l yX7_splice wsX7_splice ({ frames := 1, cells := 0, slots := 0, locals := 21 }) (va_Pc [.ref g0, .int x, .int y] (pW D (TY cI cJ cB cZ) [(g0, .inr (11, [.int (nI th), .int (nI mn), .ref g1, .ref g2, .int (nI mb), .ref g3, .ref g4, .ref g5, .int (nI mw), .ref g6, .ref g7, .ref g8, .ref g9, .ref g10, .long msa, .long msb, .ref g11, .ref g12, .ref g13, .ref g14, .ref g15, .int (nI mz), .ref g16, .ref g17, .ref g18, .int (nI mv), .ref g19, .int (nI my), .ref g20, .ref g21, .ref g22, .int wt, .int wr, .int fo])), (g16, .inl (cI, 20, .inl (fun jj => nI (pA jj)))), (g17, .inl (cI, 20, .inl (fun jj => nI (pB jj))))] (fun _ => True) sz)) (va_Qi (fun (rv : Int32) (u : Nat × Nat × (Nat → Nat) × (Nat → Nat)) => (u.1 = 1 ∧ ¬ (inR x mw ∧ inR y mw) ∧ u.2.2.1 = pA ∧ u.2.2.2 = pB ∧ u.2.1 = mz) ∨ (u.1 = 0 ∧ (inR x mw ∧ inR y mw) ∧ (rv, u.2.2.1, u.2.2.2, u.2.1) = Gsplice pA pB mz (cN x) (cN y))) (qW D (TY cI cJ cB cZ) (va_A [(g0, .inr (11, [.int (nI th), .int (nI mn), .ref g1, .ref g2, .int (nI mb), .ref g3, .ref g4, .ref g5, .int (nI mw), .ref g6, .ref g7, .ref g8, .ref g9, .ref g10, .long msa, .long msb, .ref g11, .ref g12, .ref g13, .ref g14, .ref g15, .int (nI mz), .ref g16, .ref g17, .ref g18, .int (nI mv), .ref g19, .int (nI my), .ref g20, .ref g21, .ref g22, .int wt, .int wr, .int fo])), (g16, .inl (cI, 20, .inl (fun jj => nI (pA jj)))), (g17, .inl (cI, 20, .inl (fun jj => nI (pB jj))))] sz) (fun u => [(g0, .inr (11, [.int (nI u.1), .int (nI mn), .ref g1, .ref g2, .int (nI mb), .ref g3, .ref g4, .ref g5, .int (nI mw), .ref g6, .ref g7, .ref g8, .ref g9, .ref g10, .long msa, .long msb, .ref g11, .ref g12, .ref g13, .ref g14, .ref g15, .int (nI u.2.1), .ref g16, .ref g17, .ref g18, .int (nI mv), .ref g19, .int (nI my), .ref g20, .ref g21, .ref g22, .int wt, .int wr, .int fo])), (g16, .inl (cI, 20, .inl (fun jj => nI (u.2.2.1 jj)))), (g17, .inl (cI, 20, .inl (fun jj => nI (u.2.2.2 jj))))])) (va_A [(g0, .inr (11, [.int (nI th), .int (nI mn), .ref g1, .ref g2, .int (nI mb), .ref g3, .ref g4, .ref g5, .int (nI mw), .ref g6, .ref g7, .ref g8, .ref g9, .ref g10, .long msa, .long msb, .ref g11, .ref g12, .ref g13, .ref g14, .ref g15, .int (nI mz), .ref g16, .ref g17, .ref g18, .int (nI mv), .ref g19, .int (nI my), .ref g20, .ref g21, .ref g22, .int wt, .int wr, .int fo])), (g16, .inl (cI, 20, .inl (fun jj => nI (pA jj)))), (g17, .inl (cI, 20, .inl (fun jj => nI (pB jj))))] sz)) 0 0 (va_A [(g0, .inr (11, [.int (nI th), .int (nI mn), .ref g1, .ref g2, .int (nI mb), .ref g3, .ref g4, .ref g5, .int (nI mw), .ref g6, .ref g7, .ref g8, .ref g9, .ref g10, .long msa, .long msb, .ref g11, .ref g12, .ref g13, .ref g14, .ref g15, .int (nI mz), .ref g16, .ref g17, .ref g18, .int (nI mv), .ref g19, .int (nI my), .ref g20, .ref g21, .ref g22, .int wt, .int wr, .int fo])), (g16, .inl (cI, 20, .inl (fun jj => nI (pA jj)))), (g17, .inl (cI, 20, .inl (fun jj => nI (pB jj))))] sz) := by
  refine gx_met RX7 rfl (by decide) rfl (Nat.le_of_ble_eq_true rfl) ?_
  intro X hl hDx hAx C hQ hXP hsz hin
  subst hl; subst hDx
  rw [← hAx] at hQ
  refine g_lv [0, 1, 2] (lv' := [(0, .ref g0), (1, .int x), (2, .int y)]) rfl ?_
  refine g_aload_n C dX7_splice_0 1 rfl rfl ?_
  refine g_aload_n C dX7_splice_1 2 rfl rfl ?_
  refine g_iload_n C dX7_splice_2 3 rfl rfl ?_
  refine g_callVi (ci := 11) (q0 := 0) (As := [.int x]) (rest := [.ref g0]) (wr := [(g16, .inl (cI, 20, .inl (fun jj => nI (pA jj)))), (g17, .inl (cI, 20, .inl (fun jj => nI (pB jj))))]) (ws' := fun (_ : Unit) => [(g0, .inr (11, [.int (nI th), .int (nI mn), .ref g1, .ref g2, .int (nI mb), .ref g3, .ref g4, .ref g5, .int (nI mw), .ref g6, .ref g7, .ref g8, .ref g9, .ref g10, .long msa, .long msb, .ref g11, .ref g12, .ref g13, .ref g14, .ref g15, .int (nI mz), .ref g16, .ref g17, .ref g18, .int (nI mv), .ref g19, .int (nI my), .ref g20, .ref g21, .ref g22, .int wt, .int wr, .int fo])), (g16, .inl (cI, 20, .inl (fun jj => nI (pA jj)))), (g17, .inl (cI, 20, .inl (fun jj => nI (pB jj))))]) C (fun sz => c_X7_isWire _ _ cI cJ cB cZ sz g0 g1 g2 g3 g4 g5 g6 g7 g8 g9 g10 g11 g12 g13 g14 g15 g16 g17 g18 g19 g20 g21 g22 th mn mb mw mz mv my msa msb wt wr fo x ) gx_XP0 1 gX7_splice_X7_isWire rfl rfl rfl (by decide +kernel) ⟨Nat.le_of_ble_eq_true rfl, Nat.le_of_ble_eq_true rfl⟩ rfl rfl [0] [1, 2] [2, 0, 1] rfl (by decide) rfl (by decide) (by decide) (fun _ => rfl) (by decide) rfl rfl (Nat.le_of_ble_eq_true rfl) dX7_splice_3 ⟨Nat.le_of_ble_eq_true rfl, Nat.le_of_ble_eq_true rfl⟩ 6 rfl (eqk ?_)
  refine g_if_eq_b C dX7_splice_6 21 9 (by decide) rfl (fun c6 => ?_) (fun c6 => ?_)
  · refine g_iconst (v := nI 1) C dX7_splice_21 22 rfl (by decide) ?_
    refine g_put C (ty := .int) iw_X7_splice_X7 tyX7 tyX7_ok nmX7 0 rfl rfl 0 (by decide) (by decide +kernel) rfl rfl (by decide +kernel) rfl rfl (Nat.le_of_ble_eq_true rfl) dX7_splice_22 25 rfl (ws' := [(g0, .inr (11, [.int (nI 1), .int (nI mn), .ref g1, .ref g2, .int (nI mb), .ref g3, .ref g4, .ref g5, .int (nI mw), .ref g6, .ref g7, .ref g8, .ref g9, .ref g10, .long msa, .long msb, .ref g11, .ref g12, .ref g13, .ref g14, .ref g15, .int (nI mz), .ref g16, .ref g17, .ref g18, .int (nI mv), .ref g19, .int (nI my), .ref g20, .ref g21, .ref g22, .int wt, .int wr, .int fo])), (g16, .inl (cI, 20, .inl (fun jj => nI (pA jj)))), (g17, .inl (cI, 20, .inl (fun jj => nI (pB jj))))]) rfl ?_
    refine g_aload_n C dX7_splice_25 26 rfl rfl ?_
    refine g_get C iw_X7_splice_X7 0 rfl rfl 0 (by decide) (by decide +kernel) rfl rfl dX7_splice_26 29 rfl ?_
    refine g_if_eq_n C dX7_splice_29 34 32 (by decide) rfl (by omega) (fun c29 => ?_) (fun c29 => ?_)
    · exact absurd c29 (by omega)
    · refine g_iconst (v := nI 0) C dX7_splice_32 33 rfl (by decide) ?_
      exact g_iret C hQ (Nat.le_of_ble_eq_true rfl) (Nat.le_of_ble_eq_true rfl) dX7_splice_33 (1, mz, pA, pB) (Or.inl ⟨rfl, fun q => inB_f (by omega) c6 q.1, rfl, rfl, rfl⟩) (by first | (dsimp only; done) | rfl)
  · refine g_aload_n C dX7_splice_9 10 rfl rfl ?_
    refine g_iload_n C dX7_splice_10 11 rfl rfl ?_
    refine g_callVi (ci := 11) (q0 := 0) (As := [.int y]) (rest := [.ref g0]) (wr := [(g16, .inl (cI, 20, .inl (fun jj => nI (pA jj)))), (g17, .inl (cI, 20, .inl (fun jj => nI (pB jj))))]) (ws' := fun (_ : Unit) => [(g0, .inr (11, [.int (nI th), .int (nI mn), .ref g1, .ref g2, .int (nI mb), .ref g3, .ref g4, .ref g5, .int (nI mw), .ref g6, .ref g7, .ref g8, .ref g9, .ref g10, .long msa, .long msb, .ref g11, .ref g12, .ref g13, .ref g14, .ref g15, .int (nI mz), .ref g16, .ref g17, .ref g18, .int (nI mv), .ref g19, .int (nI my), .ref g20, .ref g21, .ref g22, .int wt, .int wr, .int fo])), (g16, .inl (cI, 20, .inl (fun jj => nI (pA jj)))), (g17, .inl (cI, 20, .inl (fun jj => nI (pB jj))))]) C (fun sz => c_X7_isWire _ _ cI cJ cB cZ sz g0 g1 g2 g3 g4 g5 g6 g7 g8 g9 g10 g11 g12 g13 g14 g15 g16 g17 g18 g19 g20 g21 g22 th mn mb mw mz mv my msa msb wt wr fo y ) gx_XP0 1 gX7_splice_X7_isWire rfl rfl rfl (by decide +kernel) ⟨Nat.le_of_ble_eq_true rfl, Nat.le_of_ble_eq_true rfl⟩ rfl rfl [0] [1, 2] [2, 0, 1] rfl (by decide) rfl (by decide) (by decide) (fun _ => rfl) (by decide) rfl rfl (Nat.le_of_ble_eq_true rfl) dX7_splice_11 ⟨Nat.le_of_ble_eq_true rfl, Nat.le_of_ble_eq_true rfl⟩ 14 rfl (eqk ?_)
    refine g_if_eq_b C dX7_splice_14 21 17 (by decide) rfl (fun c14 => ?_) (fun c14 => ?_)
    · refine g_iconst (v := nI 1) C dX7_splice_21 22 rfl (by decide) ?_
      refine g_put C (ty := .int) iw_X7_splice_X7 tyX7 tyX7_ok nmX7 0 rfl rfl 0 (by decide) (by decide +kernel) rfl rfl (by decide +kernel) rfl rfl (Nat.le_of_ble_eq_true rfl) dX7_splice_22 25 rfl (ws' := [(g0, .inr (11, [.int (nI 1), .int (nI mn), .ref g1, .ref g2, .int (nI mb), .ref g3, .ref g4, .ref g5, .int (nI mw), .ref g6, .ref g7, .ref g8, .ref g9, .ref g10, .long msa, .long msb, .ref g11, .ref g12, .ref g13, .ref g14, .ref g15, .int (nI mz), .ref g16, .ref g17, .ref g18, .int (nI mv), .ref g19, .int (nI my), .ref g20, .ref g21, .ref g22, .int wt, .int wr, .int fo])), (g16, .inl (cI, 20, .inl (fun jj => nI (pA jj)))), (g17, .inl (cI, 20, .inl (fun jj => nI (pB jj))))]) rfl ?_
      refine g_aload_n C dX7_splice_25 26 rfl rfl ?_
      refine g_get C iw_X7_splice_X7 0 rfl rfl 0 (by decide) (by decide +kernel) rfl rfl dX7_splice_26 29 rfl ?_
      refine g_if_eq_n C dX7_splice_29 34 32 (by decide) rfl (by omega) (fun c29 => ?_) (fun c29 => ?_)
      · exact absurd c29 (by omega)
      · refine g_iconst (v := nI 0) C dX7_splice_32 33 rfl (by decide) ?_
        exact g_iret C hQ (Nat.le_of_ble_eq_true rfl) (Nat.le_of_ble_eq_true rfl) dX7_splice_33 (1, mz, pA, pB) (Or.inl ⟨rfl, fun q => inB_f (by omega) c14 q.2, rfl, rfl, rfl⟩) (by first | (dsimp only; done) | rfl)
    · refine g_iconst (v := nI 0) C dX7_splice_17 18 rfl (by decide) ?_
      refine g_goto C dX7_splice_18 22 (by decide) ?_
      refine g_put C (ty := .int) iw_X7_splice_X7 tyX7 tyX7_ok nmX7 0 rfl rfl 0 (by decide) (by decide +kernel) rfl rfl (by decide +kernel) rfl rfl (Nat.le_of_ble_eq_true rfl) dX7_splice_22 25 rfl (ws' := [(g0, .inr (11, [.int (nI 0), .int (nI mn), .ref g1, .ref g2, .int (nI mb), .ref g3, .ref g4, .ref g5, .int (nI mw), .ref g6, .ref g7, .ref g8, .ref g9, .ref g10, .long msa, .long msb, .ref g11, .ref g12, .ref g13, .ref g14, .ref g15, .int (nI mz), .ref g16, .ref g17, .ref g18, .int (nI mv), .ref g19, .int (nI my), .ref g20, .ref g21, .ref g22, .int wt, .int wr, .int fo])), (g16, .inl (cI, 20, .inl (fun jj => nI (pA jj)))), (g17, .inl (cI, 20, .inl (fun jj => nI (pB jj))))]) rfl ?_
      refine g_aload_n C dX7_splice_25 26 rfl rfl ?_
      refine g_get C iw_X7_splice_X7 0 rfl rfl 0 (by decide) (by decide +kernel) rfl rfl dX7_splice_26 29 rfl ?_
      refine g_if_eq_n C dX7_splice_29 34 32 (by decide) rfl (by omega) (fun c29 => ?_) (fun c29 => ?_)
      · have hrx := inB_t (by omega) c6
        have hry := inB_t (by omega) c14
        obtain ⟨i, hi, rfl⟩ := inB_t (by omega) c6
        obtain ⟨j, hj, rfl⟩ := inB_t (by omega) c14
        refine g_iload_n C dX7_splice_34 35 rfl rfl ?_
        refine g_iload_n C dX7_splice_35 36 rfl rfl ?_
        refine g_icmp_eq_n C dX7_splice_36 48 39 (by decide) rfl (by omega) (by omega) (fun c36 => ?_) (fun c36 => ?_)
        · refine g_iconst (v := nI 1) C dX7_splice_48 49 rfl (by decide) ?_
          refine g_goto C dX7_splice_49 53 (by decide) ?_
          refine g_istore_n C dX7_splice_53 54 rfl (by decide) [1, 2, 3, 0] (lv' := [(0, .ref g0), (1, .int (nI i)), (2, .int (nI j)), (3, .int (nI 1))]) rfl ?_
          refine g_iconst (v := nI 0) C dX7_splice_54 55 rfl (by decide) ?_
          refine g_istore C dX7_splice_55 57 rfl (by decide) [1, 2, 3, 4, 0] (lv' := [(0, .ref g0), (1, .int (nI i)), (2, .int (nI j)), (3, .int (nI 1)), (4, .int (nI 0))]) rfl ?_
          have hloop : ∀ (fuel n : Nat), n ≤ mz → mz + 1 ≤ n + fuel → gx X 0 0 [(g0, .inr (11, [.int (nI 0), .int (nI mn), .ref g1, .ref g2, .int (nI mb), .ref g3, .ref g4, .ref g5, .int (nI mw), .ref g6, .ref g7, .ref g8, .ref g9, .ref g10, .long msa, .long msb, .ref g11, .ref g12, .ref g13, .ref g14, .ref g15, .int (nI mz), .ref g16, .ref g17, .ref g18, .int (nI mv), .ref g19, .int (nI my), .ref g20, .ref g21, .ref g22, .int wt, .int wr, .int fo])), (g16, .inl (cI, 20, .inl (fun jj => nI (pA jj)))), (g17, .inl (cI, 20, .inl (fun jj => nI (pB jj))))] 57 [(0, .ref g0), (1, .int (nI i)), (2, .int (nI j)), (3, .int (bI ((decide (i = j) || decide (mz = 20)) || anyB (spb pA pB i j) n))), (4, .int (nI n))] [] := by
            intro fuel
            induction fuel with
            | zero => intro n h1 h2; exact absurd h2 (by omega)
            | succ fuel hloop_ih =>
              intro n hle hfu
              refine g_iload C dX7_splice_57 59 rfl rfl ?_
              refine g_aload_n C dX7_splice_59 60 rfl rfl ?_
              refine g_get C iw_X7_splice_X7 0 rfl rfl 21 (by decide) (by decide +kernel) rfl rfl dX7_splice_60 63 rfl ?_
              refine g_icmp_ge_n C dX7_splice_63 126 66 (by decide) rfl (by omega) (by omega) (fun c63 => ?_) (fun c63 => ?_)
              · have e_n : mz = n := by omega
                subst e_n
                refine g_iload_n C dX7_splice_126 127 rfl rfl ?_
                refine g_if_eq_b C dX7_splice_127 132 130 (by decide) rfl (fun c127 => ?_) (fun c127 => ?_)
                · have hz20 : mz < 20 := by rcases Nat.lt_or_ge mz 20 with q | q; exact q; rw [show (decide (mz = 20)) = true from by simp; omega] at c127; simp at c127
                  refine g_aload_n C dX7_splice_132 133 rfl rfl ?_
                  refine g_get C iw_X7_splice_X7 0 rfl rfl 22 (by decide) (by decide +kernel) rfl rfl dX7_splice_133 136 rfl ?_
                  refine g_aload_n C dX7_splice_136 137 rfl rfl ?_
                  refine g_get C iw_X7_splice_X7 0 rfl rfl 21 (by decide) (by decide +kernel) rfl rfl dX7_splice_137 140 rfl ?_
                  refine g_iload_n C dX7_splice_140 141 rfl rfl ?_
                  refine g_iast C 1 0 rfl rfl mz rfl (by omega) (by decide) dX7_splice_141 142 rfl (ws' := [(g0, .inr (11, [.int (nI 0), .int (nI mn), .ref g1, .ref g2, .int (nI mb), .ref g3, .ref g4, .ref g5, .int (nI mw), .ref g6, .ref g7, .ref g8, .ref g9, .ref g10, .long msa, .long msb, .ref g11, .ref g12, .ref g13, .ref g14, .ref g15, .int (nI mz), .ref g16, .ref g17, .ref g18, .int (nI mv), .ref g19, .int (nI my), .ref g20, .ref g21, .ref g22, .int wt, .int wr, .int fo])), (g16, .inl (cI, 20, .inl (fun jj => nI ((updN pA mz i) jj)))), (g17, .inl (cI, 20, .inl (fun jj => nI (pB jj))))]) (by rw [upd_nI]; rfl) ?_
                  refine g_aload_n C dX7_splice_142 143 rfl rfl ?_
                  refine g_get C iw_X7_splice_X7 0 rfl rfl 23 (by decide) (by decide +kernel) rfl rfl dX7_splice_143 146 rfl ?_
                  refine g_aload_n C dX7_splice_146 147 rfl rfl ?_
                  refine g_get C iw_X7_splice_X7 0 rfl rfl 21 (by decide) (by decide +kernel) rfl rfl dX7_splice_147 150 rfl ?_
                  refine g_iload_n C dX7_splice_150 151 rfl rfl ?_
                  refine g_iast C 2 0 rfl rfl mz rfl (by omega) (by decide) dX7_splice_151 152 rfl (ws' := [(g0, .inr (11, [.int (nI 0), .int (nI mn), .ref g1, .ref g2, .int (nI mb), .ref g3, .ref g4, .ref g5, .int (nI mw), .ref g6, .ref g7, .ref g8, .ref g9, .ref g10, .long msa, .long msb, .ref g11, .ref g12, .ref g13, .ref g14, .ref g15, .int (nI mz), .ref g16, .ref g17, .ref g18, .int (nI mv), .ref g19, .int (nI my), .ref g20, .ref g21, .ref g22, .int wt, .int wr, .int fo])), (g16, .inl (cI, 20, .inl (fun jj => nI ((updN pA mz i) jj)))), (g17, .inl (cI, 20, .inl (fun jj => nI ((updN pB mz j) jj))))]) (by rw [upd_nI]; rfl) ?_
                  refine g_aload_n C dX7_splice_152 153 rfl rfl ?_
                  refine g_dup C dX7_splice_153 154 rfl rfl ?_
                  refine g_get C iw_X7_splice_X7 0 rfl rfl 21 (by decide) (by decide +kernel) rfl rfl dX7_splice_154 157 rfl ?_
                  refine g_iconst (v := nI 1) C dX7_splice_157 158 rfl (by decide) ?_
                  refine g_iaddn C dX7_splice_158 159 rfl ?_
                  refine g_put C (ty := .int) iw_X7_splice_X7 tyX7 tyX7_ok nmX7 0 rfl rfl 21 (by decide) (by decide +kernel) rfl rfl (by decide +kernel) rfl rfl (Nat.le_of_ble_eq_true rfl) dX7_splice_159 162 rfl (ws' := [(g0, .inr (11, [.int (nI 0), .int (nI mn), .ref g1, .ref g2, .int (nI mb), .ref g3, .ref g4, .ref g5, .int (nI mw), .ref g6, .ref g7, .ref g8, .ref g9, .ref g10, .long msa, .long msb, .ref g11, .ref g12, .ref g13, .ref g14, .ref g15, .int (nI (mz + 1)), .ref g16, .ref g17, .ref g18, .int (nI mv), .ref g19, .int (nI my), .ref g20, .ref g21, .ref g22, .int wt, .int wr, .int fo])), (g16, .inl (cI, 20, .inl (fun jj => nI ((updN pA mz i) jj)))), (g17, .inl (cI, 20, .inl (fun jj => nI ((updN pB mz j) jj))))]) rfl ?_
                  refine g_aload_n C dX7_splice_162 163 rfl rfl ?_
                  refine g_get C iw_X7_splice_X7 0 rfl rfl 21 (by decide) (by decide +kernel) rfl rfl dX7_splice_163 166 rfl ?_
                  exact g_iret C hQ (Nat.le_of_ble_eq_true rfl) (Nat.le_of_ble_eq_true rfl) dX7_splice_166 (0, mz + 1, updN pA mz i, updN pB mz j) (Or.inr ⟨rfl, ⟨hrx, hry⟩, by dsimp only; rw [cN_nI (by omega), cN_nI (by omega), Gsplice, if_neg (by rw [c127]; decide)]⟩) (by first | (dsimp only; done) | rfl)
                · refine g_iconst (v := -1) C dX7_splice_130 131 rfl (by decide) ?_
                  exact g_iret C hQ (Nat.le_of_ble_eq_true rfl) (Nat.le_of_ble_eq_true rfl) dX7_splice_131 (0, mz, pA, pB) (Or.inr ⟨rfl, ⟨hrx, hry⟩, by dsimp only; rw [cN_nI (by omega), cN_nI (by omega), Gsplice, if_pos c127]⟩) (by first | (dsimp only; done) | rfl)
              · have hA1 := hpA n (by omega)
                have hB1 := hpB n (by omega)
                refine g_iload_n C dX7_splice_66 67 rfl rfl ?_
                refine g_if_ne_b C dX7_splice_67 114 70 (by decide) rfl (fun c67 => ?_) (fun c67 => ?_)
                · refine g_iconst (v := nI 1) C dX7_splice_114 115 rfl (by decide) ?_
                  refine g_goto C dX7_splice_115 119 (by decide) ?_
                  refine g_istore_n C dX7_splice_119 120 rfl (by decide) [1, 2, 3, 0, 4] (lv' := [(0, .ref g0), (1, .int (nI i)), (2, .int (nI j)), (3, .int (nI 1)), (4, .int (nI n))]) rfl ?_
                  refine g_iinc (v := nI (n + 1)) C dX7_splice_120 123 rfl rfl (nI_add n 1) (by decide) [1, 2, 3, 4, 0] (lv' := [(0, .ref g0), (1, .int (nI i)), (2, .int (nI j)), (3, .int (nI 1)), (4, .int (nI (n + 1)))]) rfl ?_
                  refine g_goto C dX7_splice_123 57 (by decide) ?_
                  refine g_lv [0, 1, 2, 3, 4] (lv' := [(0, .ref g0), (1, .int (nI i)), (2, .int (nI j)), (3, .int (bI ((decide (i = j) || decide (mz = 20)) || anyB (spb pA pB i j) (n + 1)))), (4, .int (nI (n + 1)))]) (by rw [show bI ((decide (i = j) || decide (mz = 20)) || anyB (spb pA pB i j) (n + 1)) = nI 1 from by have h9 := c67; simp only [anyB]; rw [← Bool.or_assoc, h9]; simp [bI, spb, nI_one, nI_0] <;> omega]; rfl) ?_
                  exact hloop_ih (n + 1) (by omega) (by omega)
                · refine g_aload_n C dX7_splice_70 71 rfl rfl ?_
                  refine g_get C iw_X7_splice_X7 0 rfl rfl 22 (by decide) (by decide +kernel) rfl rfl dX7_splice_71 74 rfl ?_
                  refine g_iload C dX7_splice_74 76 rfl rfl ?_
                  refine g_iald C 1 0 rfl rfl n rfl (by omega) (by decide) dX7_splice_76 77 rfl ?_
                  refine g_iload_n C dX7_splice_77 78 rfl rfl ?_
                  refine g_icmp_ne_n C dX7_splice_78 92 81 (by decide) rfl (by omega) (by omega) (fun c78 => ?_) (fun c78 => ?_)
                  · refine g_aload_n C dX7_splice_92 93 rfl rfl ?_
                    refine g_get C iw_X7_splice_X7 0 rfl rfl 22 (by decide) (by decide +kernel) rfl rfl dX7_splice_93 96 rfl ?_
                    refine g_iload C dX7_splice_96 98 rfl rfl ?_
                    refine g_iald C 1 0 rfl rfl n rfl (by omega) (by decide) dX7_splice_98 99 rfl ?_
                    refine g_iload_n C dX7_splice_99 100 rfl rfl ?_
                    refine g_icmp_ne_n C dX7_splice_100 118 103 (by decide) rfl (by omega) (by omega) (fun c100 => ?_) (fun c100 => ?_)
                    · refine g_iconst (v := nI 0) C dX7_splice_118 119 rfl (by decide) ?_
                      refine g_istore_n C dX7_splice_119 120 rfl (by decide) [1, 2, 3, 0, 4] (lv' := [(0, .ref g0), (1, .int (nI i)), (2, .int (nI j)), (3, .int (nI 0)), (4, .int (nI n))]) rfl ?_
                      refine g_iinc (v := nI (n + 1)) C dX7_splice_120 123 rfl rfl (nI_add n 1) (by decide) [1, 2, 3, 4, 0] (lv' := [(0, .ref g0), (1, .int (nI i)), (2, .int (nI j)), (3, .int (nI 0)), (4, .int (nI (n + 1)))]) rfl ?_
                      refine g_goto C dX7_splice_123 57 (by decide) ?_
                      refine g_lv [0, 1, 2, 3, 4] (lv' := [(0, .ref g0), (1, .int (nI i)), (2, .int (nI j)), (3, .int (bI ((decide (i = j) || decide (mz = 20)) || anyB (spb pA pB i j) (n + 1)))), (4, .int (nI (n + 1)))]) (by rw [show bI ((decide (i = j) || decide (mz = 20)) || anyB (spb pA pB i j) (n + 1)) = nI 0 from by have h9 := c67; simp only [anyB]; rw [← Bool.or_assoc, h9]; simp [bI, spb, nI_one, nI_0, c78, c100] <;> omega]; rfl) ?_
                      exact hloop_ih (n + 1) (by omega) (by omega)
                    · refine g_aload_n C dX7_splice_103 104 rfl rfl ?_
                      refine g_get C iw_X7_splice_X7 0 rfl rfl 23 (by decide) (by decide +kernel) rfl rfl dX7_splice_104 107 rfl ?_
                      refine g_iload C dX7_splice_107 109 rfl rfl ?_
                      refine g_iald C 2 0 rfl rfl n rfl (by omega) (by decide) dX7_splice_109 110 rfl ?_
                      refine g_iload_n C dX7_splice_110 111 rfl rfl ?_
                      refine g_icmp_ne_n C dX7_splice_111 118 114 (by decide) rfl (by omega) (by omega) (fun c111 => ?_) (fun c111 => ?_)
                      · refine g_iconst (v := nI 0) C dX7_splice_118 119 rfl (by decide) ?_
                        refine g_istore_n C dX7_splice_119 120 rfl (by decide) [1, 2, 3, 0, 4] (lv' := [(0, .ref g0), (1, .int (nI i)), (2, .int (nI j)), (3, .int (nI 0)), (4, .int (nI n))]) rfl ?_
                        refine g_iinc (v := nI (n + 1)) C dX7_splice_120 123 rfl rfl (nI_add n 1) (by decide) [1, 2, 3, 4, 0] (lv' := [(0, .ref g0), (1, .int (nI i)), (2, .int (nI j)), (3, .int (nI 0)), (4, .int (nI (n + 1)))]) rfl ?_
                        refine g_goto C dX7_splice_123 57 (by decide) ?_
                        refine g_lv [0, 1, 2, 3, 4] (lv' := [(0, .ref g0), (1, .int (nI i)), (2, .int (nI j)), (3, .int (bI ((decide (i = j) || decide (mz = 20)) || anyB (spb pA pB i j) (n + 1)))), (4, .int (nI (n + 1)))]) (by rw [show bI ((decide (i = j) || decide (mz = 20)) || anyB (spb pA pB i j) (n + 1)) = nI 0 from by have h9 := c67; simp only [anyB]; rw [← Bool.or_assoc, h9]; simp [bI, spb, nI_one, nI_0, c78, c100, c111] <;> omega]; rfl) ?_
                        exact hloop_ih (n + 1) (by omega) (by omega)
                      · refine g_iconst (v := nI 1) C dX7_splice_114 115 rfl (by decide) ?_
                        refine g_goto C dX7_splice_115 119 (by decide) ?_
                        refine g_istore_n C dX7_splice_119 120 rfl (by decide) [1, 2, 3, 0, 4] (lv' := [(0, .ref g0), (1, .int (nI i)), (2, .int (nI j)), (3, .int (nI 1)), (4, .int (nI n))]) rfl ?_
                        refine g_iinc (v := nI (n + 1)) C dX7_splice_120 123 rfl rfl (nI_add n 1) (by decide) [1, 2, 3, 4, 0] (lv' := [(0, .ref g0), (1, .int (nI i)), (2, .int (nI j)), (3, .int (nI 1)), (4, .int (nI (n + 1)))]) rfl ?_
                        refine g_goto C dX7_splice_123 57 (by decide) ?_
                        refine g_lv [0, 1, 2, 3, 4] (lv' := [(0, .ref g0), (1, .int (nI i)), (2, .int (nI j)), (3, .int (bI ((decide (i = j) || decide (mz = 20)) || anyB (spb pA pB i j) (n + 1)))), (4, .int (nI (n + 1)))]) (by rw [show bI ((decide (i = j) || decide (mz = 20)) || anyB (spb pA pB i j) (n + 1)) = nI 1 from by have h9 := c67; simp only [anyB]; rw [← Bool.or_assoc, h9]; simp [bI, spb, nI_one, nI_0, c78, c100, c111] <;> omega]; rfl) ?_
                        exact hloop_ih (n + 1) (by omega) (by omega)
                  · refine g_aload_n C dX7_splice_81 82 rfl rfl ?_
                    refine g_get C iw_X7_splice_X7 0 rfl rfl 23 (by decide) (by decide +kernel) rfl rfl dX7_splice_82 85 rfl ?_
                    refine g_iload C dX7_splice_85 87 rfl rfl ?_
                    refine g_iald C 2 0 rfl rfl n rfl (by omega) (by decide) dX7_splice_87 88 rfl ?_
                    refine g_iload_n C dX7_splice_88 89 rfl rfl ?_
                    refine g_icmp_eq_n C dX7_splice_89 114 92 (by decide) rfl (by omega) (by omega) (fun c89 => ?_) (fun c89 => ?_)
                    · refine g_iconst (v := nI 1) C dX7_splice_114 115 rfl (by decide) ?_
                      refine g_goto C dX7_splice_115 119 (by decide) ?_
                      refine g_istore_n C dX7_splice_119 120 rfl (by decide) [1, 2, 3, 0, 4] (lv' := [(0, .ref g0), (1, .int (nI i)), (2, .int (nI j)), (3, .int (nI 1)), (4, .int (nI n))]) rfl ?_
                      refine g_iinc (v := nI (n + 1)) C dX7_splice_120 123 rfl rfl (nI_add n 1) (by decide) [1, 2, 3, 4, 0] (lv' := [(0, .ref g0), (1, .int (nI i)), (2, .int (nI j)), (3, .int (nI 1)), (4, .int (nI (n + 1)))]) rfl ?_
                      refine g_goto C dX7_splice_123 57 (by decide) ?_
                      refine g_lv [0, 1, 2, 3, 4] (lv' := [(0, .ref g0), (1, .int (nI i)), (2, .int (nI j)), (3, .int (bI ((decide (i = j) || decide (mz = 20)) || anyB (spb pA pB i j) (n + 1)))), (4, .int (nI (n + 1)))]) (by rw [show bI ((decide (i = j) || decide (mz = 20)) || anyB (spb pA pB i j) (n + 1)) = nI 1 from by have h9 := c67; simp only [anyB]; rw [← Bool.or_assoc, h9]; simp [bI, spb, nI_one, nI_0, c78, c89] <;> omega]; rfl) ?_
                      exact hloop_ih (n + 1) (by omega) (by omega)
                    · refine g_aload_n C dX7_splice_92 93 rfl rfl ?_
                      refine g_get C iw_X7_splice_X7 0 rfl rfl 22 (by decide) (by decide +kernel) rfl rfl dX7_splice_93 96 rfl ?_
                      refine g_iload C dX7_splice_96 98 rfl rfl ?_
                      refine g_iald C 1 0 rfl rfl n rfl (by omega) (by decide) dX7_splice_98 99 rfl ?_
                      refine g_iload_n C dX7_splice_99 100 rfl rfl ?_
                      refine g_icmp_ne_n C dX7_splice_100 118 103 (by decide) rfl (by omega) (by omega) (fun c100 => ?_) (fun c100 => ?_)
                      · refine g_iconst (v := nI 0) C dX7_splice_118 119 rfl (by decide) ?_
                        refine g_istore_n C dX7_splice_119 120 rfl (by decide) [1, 2, 3, 0, 4] (lv' := [(0, .ref g0), (1, .int (nI i)), (2, .int (nI j)), (3, .int (nI 0)), (4, .int (nI n))]) rfl ?_
                        refine g_iinc (v := nI (n + 1)) C dX7_splice_120 123 rfl rfl (nI_add n 1) (by decide) [1, 2, 3, 4, 0] (lv' := [(0, .ref g0), (1, .int (nI i)), (2, .int (nI j)), (3, .int (nI 0)), (4, .int (nI (n + 1)))]) rfl ?_
                        refine g_goto C dX7_splice_123 57 (by decide) ?_
                        refine g_lv [0, 1, 2, 3, 4] (lv' := [(0, .ref g0), (1, .int (nI i)), (2, .int (nI j)), (3, .int (bI ((decide (i = j) || decide (mz = 20)) || anyB (spb pA pB i j) (n + 1)))), (4, .int (nI (n + 1)))]) (by rw [show bI ((decide (i = j) || decide (mz = 20)) || anyB (spb pA pB i j) (n + 1)) = nI 0 from by have h9 := c67; simp only [anyB]; rw [← Bool.or_assoc, h9]; simp [bI, spb, nI_one, nI_0, c78, c89, c100] <;> omega]; rfl) ?_
                        exact hloop_ih (n + 1) (by omega) (by omega)
                      · refine g_aload_n C dX7_splice_103 104 rfl rfl ?_
                        refine g_get C iw_X7_splice_X7 0 rfl rfl 23 (by decide) (by decide +kernel) rfl rfl dX7_splice_104 107 rfl ?_
                        refine g_iload C dX7_splice_107 109 rfl rfl ?_
                        refine g_iald C 2 0 rfl rfl n rfl (by omega) (by decide) dX7_splice_109 110 rfl ?_
                        refine g_iload_n C dX7_splice_110 111 rfl rfl ?_
                        refine g_icmp_ne_n C dX7_splice_111 118 114 (by decide) rfl (by omega) (by omega) (fun c111 => ?_) (fun c111 => ?_)
                        · refine g_iconst (v := nI 0) C dX7_splice_118 119 rfl (by decide) ?_
                          refine g_istore_n C dX7_splice_119 120 rfl (by decide) [1, 2, 3, 0, 4] (lv' := [(0, .ref g0), (1, .int (nI i)), (2, .int (nI j)), (3, .int (nI 0)), (4, .int (nI n))]) rfl ?_
                          refine g_iinc (v := nI (n + 1)) C dX7_splice_120 123 rfl rfl (nI_add n 1) (by decide) [1, 2, 3, 4, 0] (lv' := [(0, .ref g0), (1, .int (nI i)), (2, .int (nI j)), (3, .int (nI 0)), (4, .int (nI (n + 1)))]) rfl ?_
                          refine g_goto C dX7_splice_123 57 (by decide) ?_
                          refine g_lv [0, 1, 2, 3, 4] (lv' := [(0, .ref g0), (1, .int (nI i)), (2, .int (nI j)), (3, .int (bI ((decide (i = j) || decide (mz = 20)) || anyB (spb pA pB i j) (n + 1)))), (4, .int (nI (n + 1)))]) (by rw [show bI ((decide (i = j) || decide (mz = 20)) || anyB (spb pA pB i j) (n + 1)) = nI 0 from by have h9 := c67; simp only [anyB]; rw [← Bool.or_assoc, h9]; simp [bI, spb, nI_one, nI_0, c78, c89, c100, c111] <;> omega]; rfl) ?_
                          exact hloop_ih (n + 1) (by omega) (by omega)
                        · refine g_iconst (v := nI 1) C dX7_splice_114 115 rfl (by decide) ?_
                          refine g_goto C dX7_splice_115 119 (by decide) ?_
                          refine g_istore_n C dX7_splice_119 120 rfl (by decide) [1, 2, 3, 0, 4] (lv' := [(0, .ref g0), (1, .int (nI i)), (2, .int (nI j)), (3, .int (nI 1)), (4, .int (nI n))]) rfl ?_
                          refine g_iinc (v := nI (n + 1)) C dX7_splice_120 123 rfl rfl (nI_add n 1) (by decide) [1, 2, 3, 4, 0] (lv' := [(0, .ref g0), (1, .int (nI i)), (2, .int (nI j)), (3, .int (nI 1)), (4, .int (nI (n + 1)))]) rfl ?_
                          refine g_goto C dX7_splice_123 57 (by decide) ?_
                          refine g_lv [0, 1, 2, 3, 4] (lv' := [(0, .ref g0), (1, .int (nI i)), (2, .int (nI j)), (3, .int (bI ((decide (i = j) || decide (mz = 20)) || anyB (spb pA pB i j) (n + 1)))), (4, .int (nI (n + 1)))]) (by rw [show bI ((decide (i = j) || decide (mz = 20)) || anyB (spb pA pB i j) (n + 1)) = nI 1 from by have h9 := c67; simp only [anyB]; rw [← Bool.or_assoc, h9]; simp [bI, spb, nI_one, nI_0, c78, c89, c100, c111] <;> omega]; rfl) ?_
                          exact hloop_ih (n + 1) (by omega) (by omega)
          refine g_lv [0, 1, 2, 3, 4] (lv' := [(0, .ref g0), (1, .int (nI i)), (2, .int (nI j)), (3, .int (bI ((decide (i = j) || decide (mz = 20)) || anyB (spb pA pB i j) 0))), (4, .int (nI 0))]) (by rw [show bI ((decide (i = j) || decide (mz = 20)) || anyB (spb pA pB i j) 0) = nI 1 from by simp [bI, anyB, nI_one, nI_0, c36]]; rfl) ?_
          exact hloop (mz + 1) 0 (by omega) (by omega)
        · refine g_aload_n C dX7_splice_39 40 rfl rfl ?_
          refine g_get C iw_X7_splice_X7 0 rfl rfl 21 (by decide) (by decide +kernel) rfl rfl dX7_splice_40 43 rfl ?_
          refine g_bipush (v := nI 20) C dX7_splice_43 45 rfl (by decide) ?_
          refine g_icmp_ne_n C dX7_splice_45 52 48 (by decide) rfl (by omega) (by omega) (fun c45 => ?_) (fun c45 => ?_)
          · refine g_iconst (v := nI 0) C dX7_splice_52 53 rfl (by decide) ?_
            refine g_istore_n C dX7_splice_53 54 rfl (by decide) [1, 2, 3, 0] (lv' := [(0, .ref g0), (1, .int (nI i)), (2, .int (nI j)), (3, .int (nI 0))]) rfl ?_
            refine g_iconst (v := nI 0) C dX7_splice_54 55 rfl (by decide) ?_
            refine g_istore C dX7_splice_55 57 rfl (by decide) [1, 2, 3, 4, 0] (lv' := [(0, .ref g0), (1, .int (nI i)), (2, .int (nI j)), (3, .int (nI 0)), (4, .int (nI 0))]) rfl ?_
            have hloop : ∀ (fuel n : Nat), n ≤ mz → mz + 1 ≤ n + fuel → gx X 0 0 [(g0, .inr (11, [.int (nI 0), .int (nI mn), .ref g1, .ref g2, .int (nI mb), .ref g3, .ref g4, .ref g5, .int (nI mw), .ref g6, .ref g7, .ref g8, .ref g9, .ref g10, .long msa, .long msb, .ref g11, .ref g12, .ref g13, .ref g14, .ref g15, .int (nI mz), .ref g16, .ref g17, .ref g18, .int (nI mv), .ref g19, .int (nI my), .ref g20, .ref g21, .ref g22, .int wt, .int wr, .int fo])), (g16, .inl (cI, 20, .inl (fun jj => nI (pA jj)))), (g17, .inl (cI, 20, .inl (fun jj => nI (pB jj))))] 57 [(0, .ref g0), (1, .int (nI i)), (2, .int (nI j)), (3, .int (bI ((decide (i = j) || decide (mz = 20)) || anyB (spb pA pB i j) n))), (4, .int (nI n))] [] := by
              intro fuel
              induction fuel with
              | zero => intro n h1 h2; exact absurd h2 (by omega)
              | succ fuel hloop_ih =>
                intro n hle hfu
                refine g_iload C dX7_splice_57 59 rfl rfl ?_
                refine g_aload_n C dX7_splice_59 60 rfl rfl ?_
                refine g_get C iw_X7_splice_X7 0 rfl rfl 21 (by decide) (by decide +kernel) rfl rfl dX7_splice_60 63 rfl ?_
                refine g_icmp_ge_n C dX7_splice_63 126 66 (by decide) rfl (by omega) (by omega) (fun c63 => ?_) (fun c63 => ?_)
                · have e_n : mz = n := by omega
                  subst e_n
                  refine g_iload_n C dX7_splice_126 127 rfl rfl ?_
                  refine g_if_eq_b C dX7_splice_127 132 130 (by decide) rfl (fun c127 => ?_) (fun c127 => ?_)
                  · have hz20 : mz < 20 := by rcases Nat.lt_or_ge mz 20 with q | q; exact q; rw [show (decide (mz = 20)) = true from by simp; omega] at c127; simp at c127
                    refine g_aload_n C dX7_splice_132 133 rfl rfl ?_
                    refine g_get C iw_X7_splice_X7 0 rfl rfl 22 (by decide) (by decide +kernel) rfl rfl dX7_splice_133 136 rfl ?_
                    refine g_aload_n C dX7_splice_136 137 rfl rfl ?_
                    refine g_get C iw_X7_splice_X7 0 rfl rfl 21 (by decide) (by decide +kernel) rfl rfl dX7_splice_137 140 rfl ?_
                    refine g_iload_n C dX7_splice_140 141 rfl rfl ?_
                    refine g_iast C 1 0 rfl rfl mz rfl (by omega) (by decide) dX7_splice_141 142 rfl (ws' := [(g0, .inr (11, [.int (nI 0), .int (nI mn), .ref g1, .ref g2, .int (nI mb), .ref g3, .ref g4, .ref g5, .int (nI mw), .ref g6, .ref g7, .ref g8, .ref g9, .ref g10, .long msa, .long msb, .ref g11, .ref g12, .ref g13, .ref g14, .ref g15, .int (nI mz), .ref g16, .ref g17, .ref g18, .int (nI mv), .ref g19, .int (nI my), .ref g20, .ref g21, .ref g22, .int wt, .int wr, .int fo])), (g16, .inl (cI, 20, .inl (fun jj => nI ((updN pA mz i) jj)))), (g17, .inl (cI, 20, .inl (fun jj => nI (pB jj))))]) (by rw [upd_nI]; rfl) ?_
                    refine g_aload_n C dX7_splice_142 143 rfl rfl ?_
                    refine g_get C iw_X7_splice_X7 0 rfl rfl 23 (by decide) (by decide +kernel) rfl rfl dX7_splice_143 146 rfl ?_
                    refine g_aload_n C dX7_splice_146 147 rfl rfl ?_
                    refine g_get C iw_X7_splice_X7 0 rfl rfl 21 (by decide) (by decide +kernel) rfl rfl dX7_splice_147 150 rfl ?_
                    refine g_iload_n C dX7_splice_150 151 rfl rfl ?_
                    refine g_iast C 2 0 rfl rfl mz rfl (by omega) (by decide) dX7_splice_151 152 rfl (ws' := [(g0, .inr (11, [.int (nI 0), .int (nI mn), .ref g1, .ref g2, .int (nI mb), .ref g3, .ref g4, .ref g5, .int (nI mw), .ref g6, .ref g7, .ref g8, .ref g9, .ref g10, .long msa, .long msb, .ref g11, .ref g12, .ref g13, .ref g14, .ref g15, .int (nI mz), .ref g16, .ref g17, .ref g18, .int (nI mv), .ref g19, .int (nI my), .ref g20, .ref g21, .ref g22, .int wt, .int wr, .int fo])), (g16, .inl (cI, 20, .inl (fun jj => nI ((updN pA mz i) jj)))), (g17, .inl (cI, 20, .inl (fun jj => nI ((updN pB mz j) jj))))]) (by rw [upd_nI]; rfl) ?_
                    refine g_aload_n C dX7_splice_152 153 rfl rfl ?_
                    refine g_dup C dX7_splice_153 154 rfl rfl ?_
                    refine g_get C iw_X7_splice_X7 0 rfl rfl 21 (by decide) (by decide +kernel) rfl rfl dX7_splice_154 157 rfl ?_
                    refine g_iconst (v := nI 1) C dX7_splice_157 158 rfl (by decide) ?_
                    refine g_iaddn C dX7_splice_158 159 rfl ?_
                    refine g_put C (ty := .int) iw_X7_splice_X7 tyX7 tyX7_ok nmX7 0 rfl rfl 21 (by decide) (by decide +kernel) rfl rfl (by decide +kernel) rfl rfl (Nat.le_of_ble_eq_true rfl) dX7_splice_159 162 rfl (ws' := [(g0, .inr (11, [.int (nI 0), .int (nI mn), .ref g1, .ref g2, .int (nI mb), .ref g3, .ref g4, .ref g5, .int (nI mw), .ref g6, .ref g7, .ref g8, .ref g9, .ref g10, .long msa, .long msb, .ref g11, .ref g12, .ref g13, .ref g14, .ref g15, .int (nI (mz + 1)), .ref g16, .ref g17, .ref g18, .int (nI mv), .ref g19, .int (nI my), .ref g20, .ref g21, .ref g22, .int wt, .int wr, .int fo])), (g16, .inl (cI, 20, .inl (fun jj => nI ((updN pA mz i) jj)))), (g17, .inl (cI, 20, .inl (fun jj => nI ((updN pB mz j) jj))))]) rfl ?_
                    refine g_aload_n C dX7_splice_162 163 rfl rfl ?_
                    refine g_get C iw_X7_splice_X7 0 rfl rfl 21 (by decide) (by decide +kernel) rfl rfl dX7_splice_163 166 rfl ?_
                    exact g_iret C hQ (Nat.le_of_ble_eq_true rfl) (Nat.le_of_ble_eq_true rfl) dX7_splice_166 (0, mz + 1, updN pA mz i, updN pB mz j) (Or.inr ⟨rfl, ⟨hrx, hry⟩, by dsimp only; rw [cN_nI (by omega), cN_nI (by omega), Gsplice, if_neg (by rw [c127]; decide)]⟩) (by first | (dsimp only; done) | rfl)
                  · refine g_iconst (v := -1) C dX7_splice_130 131 rfl (by decide) ?_
                    exact g_iret C hQ (Nat.le_of_ble_eq_true rfl) (Nat.le_of_ble_eq_true rfl) dX7_splice_131 (0, mz, pA, pB) (Or.inr ⟨rfl, ⟨hrx, hry⟩, by dsimp only; rw [cN_nI (by omega), cN_nI (by omega), Gsplice, if_pos c127]⟩) (by first | (dsimp only; done) | rfl)
                · have hA1 := hpA n (by omega)
                  have hB1 := hpB n (by omega)
                  refine g_iload_n C dX7_splice_66 67 rfl rfl ?_
                  refine g_if_ne_b C dX7_splice_67 114 70 (by decide) rfl (fun c67 => ?_) (fun c67 => ?_)
                  · refine g_iconst (v := nI 1) C dX7_splice_114 115 rfl (by decide) ?_
                    refine g_goto C dX7_splice_115 119 (by decide) ?_
                    refine g_istore_n C dX7_splice_119 120 rfl (by decide) [1, 2, 3, 0, 4] (lv' := [(0, .ref g0), (1, .int (nI i)), (2, .int (nI j)), (3, .int (nI 1)), (4, .int (nI n))]) rfl ?_
                    refine g_iinc (v := nI (n + 1)) C dX7_splice_120 123 rfl rfl (nI_add n 1) (by decide) [1, 2, 3, 4, 0] (lv' := [(0, .ref g0), (1, .int (nI i)), (2, .int (nI j)), (3, .int (nI 1)), (4, .int (nI (n + 1)))]) rfl ?_
                    refine g_goto C dX7_splice_123 57 (by decide) ?_
                    refine g_lv [0, 1, 2, 3, 4] (lv' := [(0, .ref g0), (1, .int (nI i)), (2, .int (nI j)), (3, .int (bI ((decide (i = j) || decide (mz = 20)) || anyB (spb pA pB i j) (n + 1)))), (4, .int (nI (n + 1)))]) (by rw [show bI ((decide (i = j) || decide (mz = 20)) || anyB (spb pA pB i j) (n + 1)) = nI 1 from by have h9 := c67; simp only [anyB]; rw [← Bool.or_assoc, h9]; simp [bI, spb, nI_one, nI_0] <;> omega]; rfl) ?_
                    exact hloop_ih (n + 1) (by omega) (by omega)
                  · refine g_aload_n C dX7_splice_70 71 rfl rfl ?_
                    refine g_get C iw_X7_splice_X7 0 rfl rfl 22 (by decide) (by decide +kernel) rfl rfl dX7_splice_71 74 rfl ?_
                    refine g_iload C dX7_splice_74 76 rfl rfl ?_
                    refine g_iald C 1 0 rfl rfl n rfl (by omega) (by decide) dX7_splice_76 77 rfl ?_
                    refine g_iload_n C dX7_splice_77 78 rfl rfl ?_
                    refine g_icmp_ne_n C dX7_splice_78 92 81 (by decide) rfl (by omega) (by omega) (fun c78 => ?_) (fun c78 => ?_)
                    · refine g_aload_n C dX7_splice_92 93 rfl rfl ?_
                      refine g_get C iw_X7_splice_X7 0 rfl rfl 22 (by decide) (by decide +kernel) rfl rfl dX7_splice_93 96 rfl ?_
                      refine g_iload C dX7_splice_96 98 rfl rfl ?_
                      refine g_iald C 1 0 rfl rfl n rfl (by omega) (by decide) dX7_splice_98 99 rfl ?_
                      refine g_iload_n C dX7_splice_99 100 rfl rfl ?_
                      refine g_icmp_ne_n C dX7_splice_100 118 103 (by decide) rfl (by omega) (by omega) (fun c100 => ?_) (fun c100 => ?_)
                      · refine g_iconst (v := nI 0) C dX7_splice_118 119 rfl (by decide) ?_
                        refine g_istore_n C dX7_splice_119 120 rfl (by decide) [1, 2, 3, 0, 4] (lv' := [(0, .ref g0), (1, .int (nI i)), (2, .int (nI j)), (3, .int (nI 0)), (4, .int (nI n))]) rfl ?_
                        refine g_iinc (v := nI (n + 1)) C dX7_splice_120 123 rfl rfl (nI_add n 1) (by decide) [1, 2, 3, 4, 0] (lv' := [(0, .ref g0), (1, .int (nI i)), (2, .int (nI j)), (3, .int (nI 0)), (4, .int (nI (n + 1)))]) rfl ?_
                        refine g_goto C dX7_splice_123 57 (by decide) ?_
                        refine g_lv [0, 1, 2, 3, 4] (lv' := [(0, .ref g0), (1, .int (nI i)), (2, .int (nI j)), (3, .int (bI ((decide (i = j) || decide (mz = 20)) || anyB (spb pA pB i j) (n + 1)))), (4, .int (nI (n + 1)))]) (by rw [show bI ((decide (i = j) || decide (mz = 20)) || anyB (spb pA pB i j) (n + 1)) = nI 0 from by have h9 := c67; simp only [anyB]; rw [← Bool.or_assoc, h9]; simp [bI, spb, nI_one, nI_0, c78, c100] <;> omega]; rfl) ?_
                        exact hloop_ih (n + 1) (by omega) (by omega)
                      · refine g_aload_n C dX7_splice_103 104 rfl rfl ?_
                        refine g_get C iw_X7_splice_X7 0 rfl rfl 23 (by decide) (by decide +kernel) rfl rfl dX7_splice_104 107 rfl ?_
                        refine g_iload C dX7_splice_107 109 rfl rfl ?_
                        refine g_iald C 2 0 rfl rfl n rfl (by omega) (by decide) dX7_splice_109 110 rfl ?_
                        refine g_iload_n C dX7_splice_110 111 rfl rfl ?_
                        refine g_icmp_ne_n C dX7_splice_111 118 114 (by decide) rfl (by omega) (by omega) (fun c111 => ?_) (fun c111 => ?_)
                        · refine g_iconst (v := nI 0) C dX7_splice_118 119 rfl (by decide) ?_
                          refine g_istore_n C dX7_splice_119 120 rfl (by decide) [1, 2, 3, 0, 4] (lv' := [(0, .ref g0), (1, .int (nI i)), (2, .int (nI j)), (3, .int (nI 0)), (4, .int (nI n))]) rfl ?_
                          refine g_iinc (v := nI (n + 1)) C dX7_splice_120 123 rfl rfl (nI_add n 1) (by decide) [1, 2, 3, 4, 0] (lv' := [(0, .ref g0), (1, .int (nI i)), (2, .int (nI j)), (3, .int (nI 0)), (4, .int (nI (n + 1)))]) rfl ?_
                          refine g_goto C dX7_splice_123 57 (by decide) ?_
                          refine g_lv [0, 1, 2, 3, 4] (lv' := [(0, .ref g0), (1, .int (nI i)), (2, .int (nI j)), (3, .int (bI ((decide (i = j) || decide (mz = 20)) || anyB (spb pA pB i j) (n + 1)))), (4, .int (nI (n + 1)))]) (by rw [show bI ((decide (i = j) || decide (mz = 20)) || anyB (spb pA pB i j) (n + 1)) = nI 0 from by have h9 := c67; simp only [anyB]; rw [← Bool.or_assoc, h9]; simp [bI, spb, nI_one, nI_0, c78, c100, c111] <;> omega]; rfl) ?_
                          exact hloop_ih (n + 1) (by omega) (by omega)
                        · refine g_iconst (v := nI 1) C dX7_splice_114 115 rfl (by decide) ?_
                          refine g_goto C dX7_splice_115 119 (by decide) ?_
                          refine g_istore_n C dX7_splice_119 120 rfl (by decide) [1, 2, 3, 0, 4] (lv' := [(0, .ref g0), (1, .int (nI i)), (2, .int (nI j)), (3, .int (nI 1)), (4, .int (nI n))]) rfl ?_
                          refine g_iinc (v := nI (n + 1)) C dX7_splice_120 123 rfl rfl (nI_add n 1) (by decide) [1, 2, 3, 4, 0] (lv' := [(0, .ref g0), (1, .int (nI i)), (2, .int (nI j)), (3, .int (nI 1)), (4, .int (nI (n + 1)))]) rfl ?_
                          refine g_goto C dX7_splice_123 57 (by decide) ?_
                          refine g_lv [0, 1, 2, 3, 4] (lv' := [(0, .ref g0), (1, .int (nI i)), (2, .int (nI j)), (3, .int (bI ((decide (i = j) || decide (mz = 20)) || anyB (spb pA pB i j) (n + 1)))), (4, .int (nI (n + 1)))]) (by rw [show bI ((decide (i = j) || decide (mz = 20)) || anyB (spb pA pB i j) (n + 1)) = nI 1 from by have h9 := c67; simp only [anyB]; rw [← Bool.or_assoc, h9]; simp [bI, spb, nI_one, nI_0, c78, c100, c111] <;> omega]; rfl) ?_
                          exact hloop_ih (n + 1) (by omega) (by omega)
                    · refine g_aload_n C dX7_splice_81 82 rfl rfl ?_
                      refine g_get C iw_X7_splice_X7 0 rfl rfl 23 (by decide) (by decide +kernel) rfl rfl dX7_splice_82 85 rfl ?_
                      refine g_iload C dX7_splice_85 87 rfl rfl ?_
                      refine g_iald C 2 0 rfl rfl n rfl (by omega) (by decide) dX7_splice_87 88 rfl ?_
                      refine g_iload_n C dX7_splice_88 89 rfl rfl ?_
                      refine g_icmp_eq_n C dX7_splice_89 114 92 (by decide) rfl (by omega) (by omega) (fun c89 => ?_) (fun c89 => ?_)
                      · refine g_iconst (v := nI 1) C dX7_splice_114 115 rfl (by decide) ?_
                        refine g_goto C dX7_splice_115 119 (by decide) ?_
                        refine g_istore_n C dX7_splice_119 120 rfl (by decide) [1, 2, 3, 0, 4] (lv' := [(0, .ref g0), (1, .int (nI i)), (2, .int (nI j)), (3, .int (nI 1)), (4, .int (nI n))]) rfl ?_
                        refine g_iinc (v := nI (n + 1)) C dX7_splice_120 123 rfl rfl (nI_add n 1) (by decide) [1, 2, 3, 4, 0] (lv' := [(0, .ref g0), (1, .int (nI i)), (2, .int (nI j)), (3, .int (nI 1)), (4, .int (nI (n + 1)))]) rfl ?_
                        refine g_goto C dX7_splice_123 57 (by decide) ?_
                        refine g_lv [0, 1, 2, 3, 4] (lv' := [(0, .ref g0), (1, .int (nI i)), (2, .int (nI j)), (3, .int (bI ((decide (i = j) || decide (mz = 20)) || anyB (spb pA pB i j) (n + 1)))), (4, .int (nI (n + 1)))]) (by rw [show bI ((decide (i = j) || decide (mz = 20)) || anyB (spb pA pB i j) (n + 1)) = nI 1 from by have h9 := c67; simp only [anyB]; rw [← Bool.or_assoc, h9]; simp [bI, spb, nI_one, nI_0, c78, c89] <;> omega]; rfl) ?_
                        exact hloop_ih (n + 1) (by omega) (by omega)
                      · refine g_aload_n C dX7_splice_92 93 rfl rfl ?_
                        refine g_get C iw_X7_splice_X7 0 rfl rfl 22 (by decide) (by decide +kernel) rfl rfl dX7_splice_93 96 rfl ?_
                        refine g_iload C dX7_splice_96 98 rfl rfl ?_
                        refine g_iald C 1 0 rfl rfl n rfl (by omega) (by decide) dX7_splice_98 99 rfl ?_
                        refine g_iload_n C dX7_splice_99 100 rfl rfl ?_
                        refine g_icmp_ne_n C dX7_splice_100 118 103 (by decide) rfl (by omega) (by omega) (fun c100 => ?_) (fun c100 => ?_)
                        · refine g_iconst (v := nI 0) C dX7_splice_118 119 rfl (by decide) ?_
                          refine g_istore_n C dX7_splice_119 120 rfl (by decide) [1, 2, 3, 0, 4] (lv' := [(0, .ref g0), (1, .int (nI i)), (2, .int (nI j)), (3, .int (nI 0)), (4, .int (nI n))]) rfl ?_
                          refine g_iinc (v := nI (n + 1)) C dX7_splice_120 123 rfl rfl (nI_add n 1) (by decide) [1, 2, 3, 4, 0] (lv' := [(0, .ref g0), (1, .int (nI i)), (2, .int (nI j)), (3, .int (nI 0)), (4, .int (nI (n + 1)))]) rfl ?_
                          refine g_goto C dX7_splice_123 57 (by decide) ?_
                          refine g_lv [0, 1, 2, 3, 4] (lv' := [(0, .ref g0), (1, .int (nI i)), (2, .int (nI j)), (3, .int (bI ((decide (i = j) || decide (mz = 20)) || anyB (spb pA pB i j) (n + 1)))), (4, .int (nI (n + 1)))]) (by rw [show bI ((decide (i = j) || decide (mz = 20)) || anyB (spb pA pB i j) (n + 1)) = nI 0 from by have h9 := c67; simp only [anyB]; rw [← Bool.or_assoc, h9]; simp [bI, spb, nI_one, nI_0, c78, c89, c100] <;> omega]; rfl) ?_
                          exact hloop_ih (n + 1) (by omega) (by omega)
                        · refine g_aload_n C dX7_splice_103 104 rfl rfl ?_
                          refine g_get C iw_X7_splice_X7 0 rfl rfl 23 (by decide) (by decide +kernel) rfl rfl dX7_splice_104 107 rfl ?_
                          refine g_iload C dX7_splice_107 109 rfl rfl ?_
                          refine g_iald C 2 0 rfl rfl n rfl (by omega) (by decide) dX7_splice_109 110 rfl ?_
                          refine g_iload_n C dX7_splice_110 111 rfl rfl ?_
                          refine g_icmp_ne_n C dX7_splice_111 118 114 (by decide) rfl (by omega) (by omega) (fun c111 => ?_) (fun c111 => ?_)
                          · refine g_iconst (v := nI 0) C dX7_splice_118 119 rfl (by decide) ?_
                            refine g_istore_n C dX7_splice_119 120 rfl (by decide) [1, 2, 3, 0, 4] (lv' := [(0, .ref g0), (1, .int (nI i)), (2, .int (nI j)), (3, .int (nI 0)), (4, .int (nI n))]) rfl ?_
                            refine g_iinc (v := nI (n + 1)) C dX7_splice_120 123 rfl rfl (nI_add n 1) (by decide) [1, 2, 3, 4, 0] (lv' := [(0, .ref g0), (1, .int (nI i)), (2, .int (nI j)), (3, .int (nI 0)), (4, .int (nI (n + 1)))]) rfl ?_
                            refine g_goto C dX7_splice_123 57 (by decide) ?_
                            refine g_lv [0, 1, 2, 3, 4] (lv' := [(0, .ref g0), (1, .int (nI i)), (2, .int (nI j)), (3, .int (bI ((decide (i = j) || decide (mz = 20)) || anyB (spb pA pB i j) (n + 1)))), (4, .int (nI (n + 1)))]) (by rw [show bI ((decide (i = j) || decide (mz = 20)) || anyB (spb pA pB i j) (n + 1)) = nI 0 from by have h9 := c67; simp only [anyB]; rw [← Bool.or_assoc, h9]; simp [bI, spb, nI_one, nI_0, c78, c89, c100, c111] <;> omega]; rfl) ?_
                            exact hloop_ih (n + 1) (by omega) (by omega)
                          · refine g_iconst (v := nI 1) C dX7_splice_114 115 rfl (by decide) ?_
                            refine g_goto C dX7_splice_115 119 (by decide) ?_
                            refine g_istore_n C dX7_splice_119 120 rfl (by decide) [1, 2, 3, 0, 4] (lv' := [(0, .ref g0), (1, .int (nI i)), (2, .int (nI j)), (3, .int (nI 1)), (4, .int (nI n))]) rfl ?_
                            refine g_iinc (v := nI (n + 1)) C dX7_splice_120 123 rfl rfl (nI_add n 1) (by decide) [1, 2, 3, 4, 0] (lv' := [(0, .ref g0), (1, .int (nI i)), (2, .int (nI j)), (3, .int (nI 1)), (4, .int (nI (n + 1)))]) rfl ?_
                            refine g_goto C dX7_splice_123 57 (by decide) ?_
                            refine g_lv [0, 1, 2, 3, 4] (lv' := [(0, .ref g0), (1, .int (nI i)), (2, .int (nI j)), (3, .int (bI ((decide (i = j) || decide (mz = 20)) || anyB (spb pA pB i j) (n + 1)))), (4, .int (nI (n + 1)))]) (by rw [show bI ((decide (i = j) || decide (mz = 20)) || anyB (spb pA pB i j) (n + 1)) = nI 1 from by have h9 := c67; simp only [anyB]; rw [← Bool.or_assoc, h9]; simp [bI, spb, nI_one, nI_0, c78, c89, c100, c111] <;> omega]; rfl) ?_
                            exact hloop_ih (n + 1) (by omega) (by omega)
            refine g_lv [0, 1, 2, 3, 4] (lv' := [(0, .ref g0), (1, .int (nI i)), (2, .int (nI j)), (3, .int (bI ((decide (i = j) || decide (mz = 20)) || anyB (spb pA pB i j) 0))), (4, .int (nI 0))]) (by rw [show bI ((decide (i = j) || decide (mz = 20)) || anyB (spb pA pB i j) 0) = nI 0 from by simp [bI, anyB, nI_one, nI_0, c36, c45]]; rfl) ?_
            exact hloop (mz + 1) 0 (by omega) (by omega)
          · refine g_iconst (v := nI 1) C dX7_splice_48 49 rfl (by decide) ?_
            refine g_goto C dX7_splice_49 53 (by decide) ?_
            refine g_istore_n C dX7_splice_53 54 rfl (by decide) [1, 2, 3, 0] (lv' := [(0, .ref g0), (1, .int (nI i)), (2, .int (nI j)), (3, .int (nI 1))]) rfl ?_
            refine g_iconst (v := nI 0) C dX7_splice_54 55 rfl (by decide) ?_
            refine g_istore C dX7_splice_55 57 rfl (by decide) [1, 2, 3, 4, 0] (lv' := [(0, .ref g0), (1, .int (nI i)), (2, .int (nI j)), (3, .int (nI 1)), (4, .int (nI 0))]) rfl ?_
            have hloop : ∀ (fuel n : Nat), n ≤ mz → mz + 1 ≤ n + fuel → gx X 0 0 [(g0, .inr (11, [.int (nI 0), .int (nI mn), .ref g1, .ref g2, .int (nI mb), .ref g3, .ref g4, .ref g5, .int (nI mw), .ref g6, .ref g7, .ref g8, .ref g9, .ref g10, .long msa, .long msb, .ref g11, .ref g12, .ref g13, .ref g14, .ref g15, .int (nI mz), .ref g16, .ref g17, .ref g18, .int (nI mv), .ref g19, .int (nI my), .ref g20, .ref g21, .ref g22, .int wt, .int wr, .int fo])), (g16, .inl (cI, 20, .inl (fun jj => nI (pA jj)))), (g17, .inl (cI, 20, .inl (fun jj => nI (pB jj))))] 57 [(0, .ref g0), (1, .int (nI i)), (2, .int (nI j)), (3, .int (bI ((decide (i = j) || decide (mz = 20)) || anyB (spb pA pB i j) n))), (4, .int (nI n))] [] := by
              intro fuel
              induction fuel with
              | zero => intro n h1 h2; exact absurd h2 (by omega)
              | succ fuel hloop_ih =>
                intro n hle hfu
                refine g_iload C dX7_splice_57 59 rfl rfl ?_
                refine g_aload_n C dX7_splice_59 60 rfl rfl ?_
                refine g_get C iw_X7_splice_X7 0 rfl rfl 21 (by decide) (by decide +kernel) rfl rfl dX7_splice_60 63 rfl ?_
                refine g_icmp_ge_n C dX7_splice_63 126 66 (by decide) rfl (by omega) (by omega) (fun c63 => ?_) (fun c63 => ?_)
                · have e_n : mz = n := by omega
                  subst e_n
                  refine g_iload_n C dX7_splice_126 127 rfl rfl ?_
                  refine g_if_eq_b C dX7_splice_127 132 130 (by decide) rfl (fun c127 => ?_) (fun c127 => ?_)
                  · have hz20 : mz < 20 := by rcases Nat.lt_or_ge mz 20 with q | q; exact q; rw [show (decide (mz = 20)) = true from by simp; omega] at c127; simp at c127
                    refine g_aload_n C dX7_splice_132 133 rfl rfl ?_
                    refine g_get C iw_X7_splice_X7 0 rfl rfl 22 (by decide) (by decide +kernel) rfl rfl dX7_splice_133 136 rfl ?_
                    refine g_aload_n C dX7_splice_136 137 rfl rfl ?_
                    refine g_get C iw_X7_splice_X7 0 rfl rfl 21 (by decide) (by decide +kernel) rfl rfl dX7_splice_137 140 rfl ?_
                    refine g_iload_n C dX7_splice_140 141 rfl rfl ?_
                    refine g_iast C 1 0 rfl rfl mz rfl (by omega) (by decide) dX7_splice_141 142 rfl (ws' := [(g0, .inr (11, [.int (nI 0), .int (nI mn), .ref g1, .ref g2, .int (nI mb), .ref g3, .ref g4, .ref g5, .int (nI mw), .ref g6, .ref g7, .ref g8, .ref g9, .ref g10, .long msa, .long msb, .ref g11, .ref g12, .ref g13, .ref g14, .ref g15, .int (nI mz), .ref g16, .ref g17, .ref g18, .int (nI mv), .ref g19, .int (nI my), .ref g20, .ref g21, .ref g22, .int wt, .int wr, .int fo])), (g16, .inl (cI, 20, .inl (fun jj => nI ((updN pA mz i) jj)))), (g17, .inl (cI, 20, .inl (fun jj => nI (pB jj))))]) (by rw [upd_nI]; rfl) ?_
                    refine g_aload_n C dX7_splice_142 143 rfl rfl ?_
                    refine g_get C iw_X7_splice_X7 0 rfl rfl 23 (by decide) (by decide +kernel) rfl rfl dX7_splice_143 146 rfl ?_
                    refine g_aload_n C dX7_splice_146 147 rfl rfl ?_
                    refine g_get C iw_X7_splice_X7 0 rfl rfl 21 (by decide) (by decide +kernel) rfl rfl dX7_splice_147 150 rfl ?_
                    refine g_iload_n C dX7_splice_150 151 rfl rfl ?_
                    refine g_iast C 2 0 rfl rfl mz rfl (by omega) (by decide) dX7_splice_151 152 rfl (ws' := [(g0, .inr (11, [.int (nI 0), .int (nI mn), .ref g1, .ref g2, .int (nI mb), .ref g3, .ref g4, .ref g5, .int (nI mw), .ref g6, .ref g7, .ref g8, .ref g9, .ref g10, .long msa, .long msb, .ref g11, .ref g12, .ref g13, .ref g14, .ref g15, .int (nI mz), .ref g16, .ref g17, .ref g18, .int (nI mv), .ref g19, .int (nI my), .ref g20, .ref g21, .ref g22, .int wt, .int wr, .int fo])), (g16, .inl (cI, 20, .inl (fun jj => nI ((updN pA mz i) jj)))), (g17, .inl (cI, 20, .inl (fun jj => nI ((updN pB mz j) jj))))]) (by rw [upd_nI]; rfl) ?_
                    refine g_aload_n C dX7_splice_152 153 rfl rfl ?_
                    refine g_dup C dX7_splice_153 154 rfl rfl ?_
                    refine g_get C iw_X7_splice_X7 0 rfl rfl 21 (by decide) (by decide +kernel) rfl rfl dX7_splice_154 157 rfl ?_
                    refine g_iconst (v := nI 1) C dX7_splice_157 158 rfl (by decide) ?_
                    refine g_iaddn C dX7_splice_158 159 rfl ?_
                    refine g_put C (ty := .int) iw_X7_splice_X7 tyX7 tyX7_ok nmX7 0 rfl rfl 21 (by decide) (by decide +kernel) rfl rfl (by decide +kernel) rfl rfl (Nat.le_of_ble_eq_true rfl) dX7_splice_159 162 rfl (ws' := [(g0, .inr (11, [.int (nI 0), .int (nI mn), .ref g1, .ref g2, .int (nI mb), .ref g3, .ref g4, .ref g5, .int (nI mw), .ref g6, .ref g7, .ref g8, .ref g9, .ref g10, .long msa, .long msb, .ref g11, .ref g12, .ref g13, .ref g14, .ref g15, .int (nI (mz + 1)), .ref g16, .ref g17, .ref g18, .int (nI mv), .ref g19, .int (nI my), .ref g20, .ref g21, .ref g22, .int wt, .int wr, .int fo])), (g16, .inl (cI, 20, .inl (fun jj => nI ((updN pA mz i) jj)))), (g17, .inl (cI, 20, .inl (fun jj => nI ((updN pB mz j) jj))))]) rfl ?_
                    refine g_aload_n C dX7_splice_162 163 rfl rfl ?_
                    refine g_get C iw_X7_splice_X7 0 rfl rfl 21 (by decide) (by decide +kernel) rfl rfl dX7_splice_163 166 rfl ?_
                    exact g_iret C hQ (Nat.le_of_ble_eq_true rfl) (Nat.le_of_ble_eq_true rfl) dX7_splice_166 (0, mz + 1, updN pA mz i, updN pB mz j) (Or.inr ⟨rfl, ⟨hrx, hry⟩, by dsimp only; rw [cN_nI (by omega), cN_nI (by omega), Gsplice, if_neg (by rw [c127]; decide)]⟩) (by first | (dsimp only; done) | rfl)
                  · refine g_iconst (v := -1) C dX7_splice_130 131 rfl (by decide) ?_
                    exact g_iret C hQ (Nat.le_of_ble_eq_true rfl) (Nat.le_of_ble_eq_true rfl) dX7_splice_131 (0, mz, pA, pB) (Or.inr ⟨rfl, ⟨hrx, hry⟩, by dsimp only; rw [cN_nI (by omega), cN_nI (by omega), Gsplice, if_pos c127]⟩) (by first | (dsimp only; done) | rfl)
                · have hA1 := hpA n (by omega)
                  have hB1 := hpB n (by omega)
                  refine g_iload_n C dX7_splice_66 67 rfl rfl ?_
                  refine g_if_ne_b C dX7_splice_67 114 70 (by decide) rfl (fun c67 => ?_) (fun c67 => ?_)
                  · refine g_iconst (v := nI 1) C dX7_splice_114 115 rfl (by decide) ?_
                    refine g_goto C dX7_splice_115 119 (by decide) ?_
                    refine g_istore_n C dX7_splice_119 120 rfl (by decide) [1, 2, 3, 0, 4] (lv' := [(0, .ref g0), (1, .int (nI i)), (2, .int (nI j)), (3, .int (nI 1)), (4, .int (nI n))]) rfl ?_
                    refine g_iinc (v := nI (n + 1)) C dX7_splice_120 123 rfl rfl (nI_add n 1) (by decide) [1, 2, 3, 4, 0] (lv' := [(0, .ref g0), (1, .int (nI i)), (2, .int (nI j)), (3, .int (nI 1)), (4, .int (nI (n + 1)))]) rfl ?_
                    refine g_goto C dX7_splice_123 57 (by decide) ?_
                    refine g_lv [0, 1, 2, 3, 4] (lv' := [(0, .ref g0), (1, .int (nI i)), (2, .int (nI j)), (3, .int (bI ((decide (i = j) || decide (mz = 20)) || anyB (spb pA pB i j) (n + 1)))), (4, .int (nI (n + 1)))]) (by rw [show bI ((decide (i = j) || decide (mz = 20)) || anyB (spb pA pB i j) (n + 1)) = nI 1 from by have h9 := c67; simp only [anyB]; rw [← Bool.or_assoc, h9]; simp [bI, spb, nI_one, nI_0] <;> omega]; rfl) ?_
                    exact hloop_ih (n + 1) (by omega) (by omega)
                  · refine g_aload_n C dX7_splice_70 71 rfl rfl ?_
                    refine g_get C iw_X7_splice_X7 0 rfl rfl 22 (by decide) (by decide +kernel) rfl rfl dX7_splice_71 74 rfl ?_
                    refine g_iload C dX7_splice_74 76 rfl rfl ?_
                    refine g_iald C 1 0 rfl rfl n rfl (by omega) (by decide) dX7_splice_76 77 rfl ?_
                    refine g_iload_n C dX7_splice_77 78 rfl rfl ?_
                    refine g_icmp_ne_n C dX7_splice_78 92 81 (by decide) rfl (by omega) (by omega) (fun c78 => ?_) (fun c78 => ?_)
                    · refine g_aload_n C dX7_splice_92 93 rfl rfl ?_
                      refine g_get C iw_X7_splice_X7 0 rfl rfl 22 (by decide) (by decide +kernel) rfl rfl dX7_splice_93 96 rfl ?_
                      refine g_iload C dX7_splice_96 98 rfl rfl ?_
                      refine g_iald C 1 0 rfl rfl n rfl (by omega) (by decide) dX7_splice_98 99 rfl ?_
                      refine g_iload_n C dX7_splice_99 100 rfl rfl ?_
                      refine g_icmp_ne_n C dX7_splice_100 118 103 (by decide) rfl (by omega) (by omega) (fun c100 => ?_) (fun c100 => ?_)
                      · refine g_iconst (v := nI 0) C dX7_splice_118 119 rfl (by decide) ?_
                        refine g_istore_n C dX7_splice_119 120 rfl (by decide) [1, 2, 3, 0, 4] (lv' := [(0, .ref g0), (1, .int (nI i)), (2, .int (nI j)), (3, .int (nI 0)), (4, .int (nI n))]) rfl ?_
                        refine g_iinc (v := nI (n + 1)) C dX7_splice_120 123 rfl rfl (nI_add n 1) (by decide) [1, 2, 3, 4, 0] (lv' := [(0, .ref g0), (1, .int (nI i)), (2, .int (nI j)), (3, .int (nI 0)), (4, .int (nI (n + 1)))]) rfl ?_
                        refine g_goto C dX7_splice_123 57 (by decide) ?_
                        refine g_lv [0, 1, 2, 3, 4] (lv' := [(0, .ref g0), (1, .int (nI i)), (2, .int (nI j)), (3, .int (bI ((decide (i = j) || decide (mz = 20)) || anyB (spb pA pB i j) (n + 1)))), (4, .int (nI (n + 1)))]) (by rw [show bI ((decide (i = j) || decide (mz = 20)) || anyB (spb pA pB i j) (n + 1)) = nI 0 from by have h9 := c67; simp only [anyB]; rw [← Bool.or_assoc, h9]; simp [bI, spb, nI_one, nI_0, c78, c100] <;> omega]; rfl) ?_
                        exact hloop_ih (n + 1) (by omega) (by omega)
                      · refine g_aload_n C dX7_splice_103 104 rfl rfl ?_
                        refine g_get C iw_X7_splice_X7 0 rfl rfl 23 (by decide) (by decide +kernel) rfl rfl dX7_splice_104 107 rfl ?_
                        refine g_iload C dX7_splice_107 109 rfl rfl ?_
                        refine g_iald C 2 0 rfl rfl n rfl (by omega) (by decide) dX7_splice_109 110 rfl ?_
                        refine g_iload_n C dX7_splice_110 111 rfl rfl ?_
                        refine g_icmp_ne_n C dX7_splice_111 118 114 (by decide) rfl (by omega) (by omega) (fun c111 => ?_) (fun c111 => ?_)
                        · refine g_iconst (v := nI 0) C dX7_splice_118 119 rfl (by decide) ?_
                          refine g_istore_n C dX7_splice_119 120 rfl (by decide) [1, 2, 3, 0, 4] (lv' := [(0, .ref g0), (1, .int (nI i)), (2, .int (nI j)), (3, .int (nI 0)), (4, .int (nI n))]) rfl ?_
                          refine g_iinc (v := nI (n + 1)) C dX7_splice_120 123 rfl rfl (nI_add n 1) (by decide) [1, 2, 3, 4, 0] (lv' := [(0, .ref g0), (1, .int (nI i)), (2, .int (nI j)), (3, .int (nI 0)), (4, .int (nI (n + 1)))]) rfl ?_
                          refine g_goto C dX7_splice_123 57 (by decide) ?_
                          refine g_lv [0, 1, 2, 3, 4] (lv' := [(0, .ref g0), (1, .int (nI i)), (2, .int (nI j)), (3, .int (bI ((decide (i = j) || decide (mz = 20)) || anyB (spb pA pB i j) (n + 1)))), (4, .int (nI (n + 1)))]) (by rw [show bI ((decide (i = j) || decide (mz = 20)) || anyB (spb pA pB i j) (n + 1)) = nI 0 from by have h9 := c67; simp only [anyB]; rw [← Bool.or_assoc, h9]; simp [bI, spb, nI_one, nI_0, c78, c100, c111] <;> omega]; rfl) ?_
                          exact hloop_ih (n + 1) (by omega) (by omega)
                        · refine g_iconst (v := nI 1) C dX7_splice_114 115 rfl (by decide) ?_
                          refine g_goto C dX7_splice_115 119 (by decide) ?_
                          refine g_istore_n C dX7_splice_119 120 rfl (by decide) [1, 2, 3, 0, 4] (lv' := [(0, .ref g0), (1, .int (nI i)), (2, .int (nI j)), (3, .int (nI 1)), (4, .int (nI n))]) rfl ?_
                          refine g_iinc (v := nI (n + 1)) C dX7_splice_120 123 rfl rfl (nI_add n 1) (by decide) [1, 2, 3, 4, 0] (lv' := [(0, .ref g0), (1, .int (nI i)), (2, .int (nI j)), (3, .int (nI 1)), (4, .int (nI (n + 1)))]) rfl ?_
                          refine g_goto C dX7_splice_123 57 (by decide) ?_
                          refine g_lv [0, 1, 2, 3, 4] (lv' := [(0, .ref g0), (1, .int (nI i)), (2, .int (nI j)), (3, .int (bI ((decide (i = j) || decide (mz = 20)) || anyB (spb pA pB i j) (n + 1)))), (4, .int (nI (n + 1)))]) (by rw [show bI ((decide (i = j) || decide (mz = 20)) || anyB (spb pA pB i j) (n + 1)) = nI 1 from by have h9 := c67; simp only [anyB]; rw [← Bool.or_assoc, h9]; simp [bI, spb, nI_one, nI_0, c78, c100, c111] <;> omega]; rfl) ?_
                          exact hloop_ih (n + 1) (by omega) (by omega)
                    · refine g_aload_n C dX7_splice_81 82 rfl rfl ?_
                      refine g_get C iw_X7_splice_X7 0 rfl rfl 23 (by decide) (by decide +kernel) rfl rfl dX7_splice_82 85 rfl ?_
                      refine g_iload C dX7_splice_85 87 rfl rfl ?_
                      refine g_iald C 2 0 rfl rfl n rfl (by omega) (by decide) dX7_splice_87 88 rfl ?_
                      refine g_iload_n C dX7_splice_88 89 rfl rfl ?_
                      refine g_icmp_eq_n C dX7_splice_89 114 92 (by decide) rfl (by omega) (by omega) (fun c89 => ?_) (fun c89 => ?_)
                      · refine g_iconst (v := nI 1) C dX7_splice_114 115 rfl (by decide) ?_
                        refine g_goto C dX7_splice_115 119 (by decide) ?_
                        refine g_istore_n C dX7_splice_119 120 rfl (by decide) [1, 2, 3, 0, 4] (lv' := [(0, .ref g0), (1, .int (nI i)), (2, .int (nI j)), (3, .int (nI 1)), (4, .int (nI n))]) rfl ?_
                        refine g_iinc (v := nI (n + 1)) C dX7_splice_120 123 rfl rfl (nI_add n 1) (by decide) [1, 2, 3, 4, 0] (lv' := [(0, .ref g0), (1, .int (nI i)), (2, .int (nI j)), (3, .int (nI 1)), (4, .int (nI (n + 1)))]) rfl ?_
                        refine g_goto C dX7_splice_123 57 (by decide) ?_
                        refine g_lv [0, 1, 2, 3, 4] (lv' := [(0, .ref g0), (1, .int (nI i)), (2, .int (nI j)), (3, .int (bI ((decide (i = j) || decide (mz = 20)) || anyB (spb pA pB i j) (n + 1)))), (4, .int (nI (n + 1)))]) (by rw [show bI ((decide (i = j) || decide (mz = 20)) || anyB (spb pA pB i j) (n + 1)) = nI 1 from by have h9 := c67; simp only [anyB]; rw [← Bool.or_assoc, h9]; simp [bI, spb, nI_one, nI_0, c78, c89] <;> omega]; rfl) ?_
                        exact hloop_ih (n + 1) (by omega) (by omega)
                      · refine g_aload_n C dX7_splice_92 93 rfl rfl ?_
                        refine g_get C iw_X7_splice_X7 0 rfl rfl 22 (by decide) (by decide +kernel) rfl rfl dX7_splice_93 96 rfl ?_
                        refine g_iload C dX7_splice_96 98 rfl rfl ?_
                        refine g_iald C 1 0 rfl rfl n rfl (by omega) (by decide) dX7_splice_98 99 rfl ?_
                        refine g_iload_n C dX7_splice_99 100 rfl rfl ?_
                        refine g_icmp_ne_n C dX7_splice_100 118 103 (by decide) rfl (by omega) (by omega) (fun c100 => ?_) (fun c100 => ?_)
                        · refine g_iconst (v := nI 0) C dX7_splice_118 119 rfl (by decide) ?_
                          refine g_istore_n C dX7_splice_119 120 rfl (by decide) [1, 2, 3, 0, 4] (lv' := [(0, .ref g0), (1, .int (nI i)), (2, .int (nI j)), (3, .int (nI 0)), (4, .int (nI n))]) rfl ?_
                          refine g_iinc (v := nI (n + 1)) C dX7_splice_120 123 rfl rfl (nI_add n 1) (by decide) [1, 2, 3, 4, 0] (lv' := [(0, .ref g0), (1, .int (nI i)), (2, .int (nI j)), (3, .int (nI 0)), (4, .int (nI (n + 1)))]) rfl ?_
                          refine g_goto C dX7_splice_123 57 (by decide) ?_
                          refine g_lv [0, 1, 2, 3, 4] (lv' := [(0, .ref g0), (1, .int (nI i)), (2, .int (nI j)), (3, .int (bI ((decide (i = j) || decide (mz = 20)) || anyB (spb pA pB i j) (n + 1)))), (4, .int (nI (n + 1)))]) (by rw [show bI ((decide (i = j) || decide (mz = 20)) || anyB (spb pA pB i j) (n + 1)) = nI 0 from by have h9 := c67; simp only [anyB]; rw [← Bool.or_assoc, h9]; simp [bI, spb, nI_one, nI_0, c78, c89, c100] <;> omega]; rfl) ?_
                          exact hloop_ih (n + 1) (by omega) (by omega)
                        · refine g_aload_n C dX7_splice_103 104 rfl rfl ?_
                          refine g_get C iw_X7_splice_X7 0 rfl rfl 23 (by decide) (by decide +kernel) rfl rfl dX7_splice_104 107 rfl ?_
                          refine g_iload C dX7_splice_107 109 rfl rfl ?_
                          refine g_iald C 2 0 rfl rfl n rfl (by omega) (by decide) dX7_splice_109 110 rfl ?_
                          refine g_iload_n C dX7_splice_110 111 rfl rfl ?_
                          refine g_icmp_ne_n C dX7_splice_111 118 114 (by decide) rfl (by omega) (by omega) (fun c111 => ?_) (fun c111 => ?_)
                          · refine g_iconst (v := nI 0) C dX7_splice_118 119 rfl (by decide) ?_
                            refine g_istore_n C dX7_splice_119 120 rfl (by decide) [1, 2, 3, 0, 4] (lv' := [(0, .ref g0), (1, .int (nI i)), (2, .int (nI j)), (3, .int (nI 0)), (4, .int (nI n))]) rfl ?_
                            refine g_iinc (v := nI (n + 1)) C dX7_splice_120 123 rfl rfl (nI_add n 1) (by decide) [1, 2, 3, 4, 0] (lv' := [(0, .ref g0), (1, .int (nI i)), (2, .int (nI j)), (3, .int (nI 0)), (4, .int (nI (n + 1)))]) rfl ?_
                            refine g_goto C dX7_splice_123 57 (by decide) ?_
                            refine g_lv [0, 1, 2, 3, 4] (lv' := [(0, .ref g0), (1, .int (nI i)), (2, .int (nI j)), (3, .int (bI ((decide (i = j) || decide (mz = 20)) || anyB (spb pA pB i j) (n + 1)))), (4, .int (nI (n + 1)))]) (by rw [show bI ((decide (i = j) || decide (mz = 20)) || anyB (spb pA pB i j) (n + 1)) = nI 0 from by have h9 := c67; simp only [anyB]; rw [← Bool.or_assoc, h9]; simp [bI, spb, nI_one, nI_0, c78, c89, c100, c111] <;> omega]; rfl) ?_
                            exact hloop_ih (n + 1) (by omega) (by omega)
                          · refine g_iconst (v := nI 1) C dX7_splice_114 115 rfl (by decide) ?_
                            refine g_goto C dX7_splice_115 119 (by decide) ?_
                            refine g_istore_n C dX7_splice_119 120 rfl (by decide) [1, 2, 3, 0, 4] (lv' := [(0, .ref g0), (1, .int (nI i)), (2, .int (nI j)), (3, .int (nI 1)), (4, .int (nI n))]) rfl ?_
                            refine g_iinc (v := nI (n + 1)) C dX7_splice_120 123 rfl rfl (nI_add n 1) (by decide) [1, 2, 3, 4, 0] (lv' := [(0, .ref g0), (1, .int (nI i)), (2, .int (nI j)), (3, .int (nI 1)), (4, .int (nI (n + 1)))]) rfl ?_
                            refine g_goto C dX7_splice_123 57 (by decide) ?_
                            refine g_lv [0, 1, 2, 3, 4] (lv' := [(0, .ref g0), (1, .int (nI i)), (2, .int (nI j)), (3, .int (bI ((decide (i = j) || decide (mz = 20)) || anyB (spb pA pB i j) (n + 1)))), (4, .int (nI (n + 1)))]) (by rw [show bI ((decide (i = j) || decide (mz = 20)) || anyB (spb pA pB i j) (n + 1)) = nI 1 from by have h9 := c67; simp only [anyB]; rw [← Bool.or_assoc, h9]; simp [bI, spb, nI_one, nI_0, c78, c89, c100, c111] <;> omega]; rfl) ?_
                            exact hloop_ih (n + 1) (by omega) (by omega)
            refine g_lv [0, 1, 2, 3, 4] (lv' := [(0, .ref g0), (1, .int (nI i)), (2, .int (nI j)), (3, .int (bI ((decide (i = j) || decide (mz = 20)) || anyB (spb pA pB i j) 0))), (4, .int (nI 0))]) (by rw [show bI ((decide (i = j) || decide (mz = 20)) || anyB (spb pA pB i j) 0) = nI 1 from by simp [bI, anyB, nI_one, nI_0, c36, c45]]; rfl) ?_
            exact hloop (mz + 1) 0 (by omega) (by omega)
      · exact absurd c29 (by omega)
