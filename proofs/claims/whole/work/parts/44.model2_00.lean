theorem iw_X7_bundle_X7 : ∀ w ∈ wsX70, w ∈ wsX7_bundle := by decide +kernel
set_option maxHeartbeats 4000000 in
set_option maxRecDepth 100000 in
theorem c_X7_bundle (l : Launch) (D : va_G) (cI cJ cB cZ : ClassId) (sz : Nat) (g0 : Nat) (g1 : Nat) (g2 : Nat) (g3 : Nat) (g4 : Nat) (g5 : Nat) (g6 : Nat) (g7 : Nat) (g8 : Nat) (g9 : Nat) (g10 : Nat) (g11 : Nat) (g12 : Nat) (g13 : Nat) (g14 : Nat) (g15 : Nat) (g16 : Nat) (g17 : Nat) (g18 : Nat) (g19 : Nat) (g20 : Nat) (g21 : Nat) (g22 : Nat) (th : Nat) (mn : Nat) (mb : Nat) (mw : Nat) (mz : Nat) (mv : Nat) (my : Nat) (msa : Int64) (msb : Int64) (wt : Int32) (wr : Int32) (fo : Int32) (mA : Nat → Nat) (mB : Nat → Nat) (mL : Nat → Int64) (fa : Nat → Int64) (xa : Int32) (xb : Int32) (len : Int64) (hm : mn ≤ 16) (h15 : ∀ i j, i < mn → j < mn → fa (16 * i + j) < 0 → mb < 15) : Met l yX7_bundle wsX7_bundle ({ frames := 1, cells := 0, slots := 0, locals := 25 }) (va_Pc [.ref g0, .int xa, .int xb, .long len] (pW D (TY cI cJ cB cZ) [(g0, .inr (11, [.int (nI th), .int (nI mn), .ref g1, .ref g2, .int (nI mb), .ref g3, .ref g4, .ref g5, .int (nI mw), .ref g6, .ref g7, .ref g8, .ref g9, .ref g10, .long msa, .long msb, .ref g11, .ref g12, .ref g13, .ref g14, .ref g15, .int (nI mz), .ref g16, .ref g17, .ref g18, .int (nI mv), .ref g19, .int (nI my), .ref g20, .ref g21, .ref g22, .int wt, .int wr, .int fo])), (g3, .inl (cI, 15, .inl (fun jj => nI (mA jj)))), (g4, .inl (cI, 15, .inl (fun jj => nI (mB jj)))), (g5, .inl (cJ, 15, .inr (.inl mL))), (g2, .inl (cJ, 256, .inr (.inl fa)))] (fun _ => True) sz)) (va_Qi (fun (rv : Int32) (u : Nat × Nat × (Nat → Nat) × (Nat → Nat) × (Nat → Int64) × (Nat → Int64)) => (u.1 = 1 ∧ ¬ (inR xa mn ∧ inR xb mn) ∧ u.2.2.1 = mA ∧ u.2.2.2.1 = mB ∧ u.2.2.2.2.1 = mL ∧ u.2.2.2.2.2 = fa ∧ u.2.1 = mb) ∨ (u.1 = 2 ∧ inR xa mn ∧ inR xb mn ∧ ¬ wiN len 1 100000 ∧ u.2.2.1 = mA ∧ u.2.2.2.1 = mB ∧ u.2.2.2.2.1 = mL ∧ u.2.2.2.2.2 = fa ∧ u.2.1 = mb) ∨ (u.1 = 0 ∧ inR xa mn ∧ inR xb mn ∧ wiN len 1 100000 ∧ (rv, u.2.2.1, u.2.2.2.1, u.2.2.2.2.1, u.2.2.2.2.2, u.2.1) = Gbundle mA mB mL fa mn mb (cN xa) (cN xb) len)) (qW D (TY cI cJ cB cZ) (va_A [(g0, .inr (11, [.int (nI th), .int (nI mn), .ref g1, .ref g2, .int (nI mb), .ref g3, .ref g4, .ref g5, .int (nI mw), .ref g6, .ref g7, .ref g8, .ref g9, .ref g10, .long msa, .long msb, .ref g11, .ref g12, .ref g13, .ref g14, .ref g15, .int (nI mz), .ref g16, .ref g17, .ref g18, .int (nI mv), .ref g19, .int (nI my), .ref g20, .ref g21, .ref g22, .int wt, .int wr, .int fo])), (g3, .inl (cI, 15, .inl (fun jj => nI (mA jj)))), (g4, .inl (cI, 15, .inl (fun jj => nI (mB jj)))), (g5, .inl (cJ, 15, .inr (.inl mL))), (g2, .inl (cJ, 256, .inr (.inl fa)))] sz) (fun u => [(g0, .inr (11, [.int (nI u.1), .int (nI mn), .ref g1, .ref g2, .int (nI u.2.1), .ref g3, .ref g4, .ref g5, .int (nI mw), .ref g6, .ref g7, .ref g8, .ref g9, .ref g10, .long msa, .long msb, .ref g11, .ref g12, .ref g13, .ref g14, .ref g15, .int (nI mz), .ref g16, .ref g17, .ref g18, .int (nI mv), .ref g19, .int (nI my), .ref g20, .ref g21, .ref g22, .int wt, .int wr, .int fo])), (g3, .inl (cI, 15, .inl (fun jj => nI (u.2.2.1 jj)))), (g4, .inl (cI, 15, .inl (fun jj => nI (u.2.2.2.1 jj)))), (g5, .inl (cJ, 15, .inr (.inl u.2.2.2.2.1))), (g2, .inl (cJ, 256, .inr (.inl u.2.2.2.2.2)))])) (va_A [(g0, .inr (11, [.int (nI th), .int (nI mn), .ref g1, .ref g2, .int (nI mb), .ref g3, .ref g4, .ref g5, .int (nI mw), .ref g6, .ref g7, .ref g8, .ref g9, .ref g10, .long msa, .long msb, .ref g11, .ref g12, .ref g13, .ref g14, .ref g15, .int (nI mz), .ref g16, .ref g17, .ref g18, .int (nI mv), .ref g19, .int (nI my), .ref g20, .ref g21, .ref g22, .int wt, .int wr, .int fo])), (g3, .inl (cI, 15, .inl (fun jj => nI (mA jj)))), (g4, .inl (cI, 15, .inl (fun jj => nI (mB jj)))), (g5, .inl (cJ, 15, .inr (.inl mL))), (g2, .inl (cJ, 256, .inr (.inl fa)))] sz)) 0 0 (va_A [(g0, .inr (11, [.int (nI th), .int (nI mn), .ref g1, .ref g2, .int (nI mb), .ref g3, .ref g4, .ref g5, .int (nI mw), .ref g6, .ref g7, .ref g8, .ref g9, .ref g10, .long msa, .long msb, .ref g11, .ref g12, .ref g13, .ref g14, .ref g15, .int (nI mz), .ref g16, .ref g17, .ref g18, .int (nI mv), .ref g19, .int (nI my), .ref g20, .ref g21, .ref g22, .int wt, .int wr, .int fo])), (g3, .inl (cI, 15, .inl (fun jj => nI (mA jj)))), (g4, .inl (cI, 15, .inl (fun jj => nI (mB jj)))), (g5, .inl (cJ, 15, .inr (.inl mL))), (g2, .inl (cJ, 256, .inr (.inl fa)))] sz) := by
  refine gx_met RX7 rfl (by decide) rfl (Nat.le_of_ble_eq_true rfl) ?_
  intro X hl hDx hAx C hQ hXP hsz hin
  subst hl; subst hDx
  rw [← hAx] at hQ
  refine g_lv [0, 1, 2, 3] (lv' := [(0, .ref g0), (1, .int xa), (2, .int xb), (3, .long len)]) rfl ?_
  refine g_aload_n C dX7_bundle_0 1 rfl rfl ?_
  refine g_aload_n C dX7_bundle_1 2 rfl rfl ?_
  refine g_iload_n C dX7_bundle_2 3 rfl rfl ?_
  refine g_callVi (ci := 11) (q0 := 0) (As := [.int xa]) (rest := [.ref g0]) (wr := [(g3, .inl (cI, 15, .inl (fun jj => nI (mA jj)))), (g4, .inl (cI, 15, .inl (fun jj => nI (mB jj)))), (g5, .inl (cJ, 15, .inr (.inl mL))), (g2, .inl (cJ, 256, .inr (.inl fa)))]) (ws' := fun (_ : Unit) => [(g0, .inr (11, [.int (nI th), .int (nI mn), .ref g1, .ref g2, .int (nI mb), .ref g3, .ref g4, .ref g5, .int (nI mw), .ref g6, .ref g7, .ref g8, .ref g9, .ref g10, .long msa, .long msb, .ref g11, .ref g12, .ref g13, .ref g14, .ref g15, .int (nI mz), .ref g16, .ref g17, .ref g18, .int (nI mv), .ref g19, .int (nI my), .ref g20, .ref g21, .ref g22, .int wt, .int wr, .int fo])), (g3, .inl (cI, 15, .inl (fun jj => nI (mA jj)))), (g4, .inl (cI, 15, .inl (fun jj => nI (mB jj)))), (g5, .inl (cJ, 15, .inr (.inl mL))), (g2, .inl (cJ, 256, .inr (.inl fa)))]) C (fun sz => c_X7_isNode _ _ cI cJ cB cZ sz g0 g1 g2 g3 g4 g5 g6 g7 g8 g9 g10 g11 g12 g13 g14 g15 g16 g17 g18 g19 g20 g21 g22 th mn mb mw mz mv my msa msb wt wr fo xa ) gx_XP0 1 gX7_bundle_X7_isNode rfl rfl rfl (by decide +kernel) ⟨Nat.le_of_ble_eq_true rfl, Nat.le_of_ble_eq_true rfl⟩ rfl rfl [0] [1, 2, 3, 4] [4, 0, 1, 2, 3] rfl (by decide) rfl (by decide) (by decide) (fun _ => rfl) (by decide) rfl rfl (Nat.le_of_ble_eq_true rfl) dX7_bundle_3 ⟨Nat.le_of_ble_eq_true rfl, Nat.le_of_ble_eq_true rfl⟩ 6 rfl (eqk ?_)
  refine g_if_eq_b C dX7_bundle_6 17 9 (by decide) rfl (fun c6 => ?_) (fun c6 => ?_)
  · refine g_iconst (v := nI 1) C dX7_bundle_17 18 rfl (by decide) ?_
    refine g_goto C dX7_bundle_18 37 (by decide) ?_
    refine g_put C (ty := .int) iw_X7_bundle_X7 tyX7 tyX7_ok nmX7 0 rfl rfl 0 (by decide) (by decide +kernel) rfl rfl (by decide +kernel) rfl rfl (Nat.le_of_ble_eq_true rfl) dX7_bundle_37 40 rfl (ws' := [(g0, .inr (11, [.int (nI 1), .int (nI mn), .ref g1, .ref g2, .int (nI mb), .ref g3, .ref g4, .ref g5, .int (nI mw), .ref g6, .ref g7, .ref g8, .ref g9, .ref g10, .long msa, .long msb, .ref g11, .ref g12, .ref g13, .ref g14, .ref g15, .int (nI mz), .ref g16, .ref g17, .ref g18, .int (nI mv), .ref g19, .int (nI my), .ref g20, .ref g21, .ref g22, .int wt, .int wr, .int fo])), (g3, .inl (cI, 15, .inl (fun jj => nI (mA jj)))), (g4, .inl (cI, 15, .inl (fun jj => nI (mB jj)))), (g5, .inl (cJ, 15, .inr (.inl mL))), (g2, .inl (cJ, 256, .inr (.inl fa)))]) rfl ?_
    refine g_aload_n C dX7_bundle_40 41 rfl rfl ?_
    refine g_get C iw_X7_bundle_X7 0 rfl rfl 0 (by decide) (by decide +kernel) rfl rfl dX7_bundle_41 44 rfl ?_
    refine g_if_eq_n C dX7_bundle_44 49 47 (by decide) rfl (by omega) (fun c44 => ?_) (fun c44 => ?_)
    · exact absurd c44 (by omega)
    · refine g_iconst (v := nI 0) C dX7_bundle_47 48 rfl (by decide) ?_
      exact g_iret C hQ (Nat.le_of_ble_eq_true rfl) (Nat.le_of_ble_eq_true rfl) dX7_bundle_48 (1, mb, mA, mB, mL, fa) (Or.inl ⟨rfl, fun q => inB_f (by omega) c6 q.1, rfl, rfl, rfl, rfl, rfl⟩) (by first | (dsimp only; done) | rfl)
  · refine g_aload_n C dX7_bundle_9 10 rfl rfl ?_
    refine g_iload_n C dX7_bundle_10 11 rfl rfl ?_
    refine g_callVi (ci := 11) (q0 := 0) (As := [.int xb]) (rest := [.ref g0]) (wr := [(g3, .inl (cI, 15, .inl (fun jj => nI (mA jj)))), (g4, .inl (cI, 15, .inl (fun jj => nI (mB jj)))), (g5, .inl (cJ, 15, .inr (.inl mL))), (g2, .inl (cJ, 256, .inr (.inl fa)))]) (ws' := fun (_ : Unit) => [(g0, .inr (11, [.int (nI th), .int (nI mn), .ref g1, .ref g2, .int (nI mb), .ref g3, .ref g4, .ref g5, .int (nI mw), .ref g6, .ref g7, .ref g8, .ref g9, .ref g10, .long msa, .long msb, .ref g11, .ref g12, .ref g13, .ref g14, .ref g15, .int (nI mz), .ref g16, .ref g17, .ref g18, .int (nI mv), .ref g19, .int (nI my), .ref g20, .ref g21, .ref g22, .int wt, .int wr, .int fo])), (g3, .inl (cI, 15, .inl (fun jj => nI (mA jj)))), (g4, .inl (cI, 15, .inl (fun jj => nI (mB jj)))), (g5, .inl (cJ, 15, .inr (.inl mL))), (g2, .inl (cJ, 256, .inr (.inl fa)))]) C (fun sz => c_X7_isNode _ _ cI cJ cB cZ sz g0 g1 g2 g3 g4 g5 g6 g7 g8 g9 g10 g11 g12 g13 g14 g15 g16 g17 g18 g19 g20 g21 g22 th mn mb mw mz mv my msa msb wt wr fo xb ) gx_XP0 1 gX7_bundle_X7_isNode rfl rfl rfl (by decide +kernel) ⟨Nat.le_of_ble_eq_true rfl, Nat.le_of_ble_eq_true rfl⟩ rfl rfl [0] [1, 2, 3, 4] [4, 0, 1, 2, 3] rfl (by decide) rfl (by decide) (by decide) (fun _ => rfl) (by decide) rfl rfl (Nat.le_of_ble_eq_true rfl) dX7_bundle_11 ⟨Nat.le_of_ble_eq_true rfl, Nat.le_of_ble_eq_true rfl⟩ 14 rfl (eqk ?_)
    refine g_if_ne_b C dX7_bundle_14 21 17 (by decide) rfl (fun c14 => ?_) (fun c14 => ?_)
    · refine g_lload_n C dX7_bundle_21 22 rfl rfl ?_
      refine g_lconst (v := 1) C dX7_bundle_22 23 rfl (by decide) ?_
      refine g_ldc2 C (100000) (by decide +kernel) dX7_bundle_23 26 rfl ?_
      refine g_callSi (As := [.long len, .long 1, .long (100000)]) (rest := [.ref g0]) (wr := [(g0, .inr (11, [.int (nI th), .int (nI mn), .ref g1, .ref g2, .int (nI mb), .ref g3, .ref g4, .ref g5, .int (nI mw), .ref g6, .ref g7, .ref g8, .ref g9, .ref g10, .long msa, .long msb, .ref g11, .ref g12, .ref g13, .ref g14, .ref g15, .int (nI mz), .ref g16, .ref g17, .ref g18, .int (nI mv), .ref g19, .int (nI my), .ref g20, .ref g21, .ref g22, .int wt, .int wr, .int fo])), (g3, .inl (cI, 15, .inl (fun jj => nI (mA jj)))), (g4, .inl (cI, 15, .inl (fun jj => nI (mB jj)))), (g5, .inl (cJ, 15, .inr (.inl mL))), (g2, .inl (cJ, 256, .inr (.inl fa)))]) (ws' := fun (_ : Unit) => [(g0, .inr (11, [.int (nI th), .int (nI mn), .ref g1, .ref g2, .int (nI mb), .ref g3, .ref g4, .ref g5, .int (nI mw), .ref g6, .ref g7, .ref g8, .ref g9, .ref g10, .long msa, .long msb, .ref g11, .ref g12, .ref g13, .ref g14, .ref g15, .int (nI mz), .ref g16, .ref g17, .ref g18, .int (nI mv), .ref g19, .int (nI my), .ref g20, .ref g21, .ref g22, .int wt, .int wr, .int fo])), (g3, .inl (cI, 15, .inl (fun jj => nI (mA jj)))), (g4, .inl (cI, 15, .inl (fun jj => nI (mB jj)))), (g5, .inl (cJ, 15, .inr (.inl mL))), (g2, .inl (cJ, 256, .inr (.inl fa)))]) C (fun sz => c_X7_within _ _ cI cJ cB cZ sz len 1 (100000) ) gx_XP0 3 gX7_bundle_X7_within rfl rfl rfl (by decide +kernel) ⟨Nat.le_of_ble_eq_true rfl, Nat.le_of_ble_eq_true rfl⟩ [] [0, 1, 2, 3, 4] [0, 1, 2, 3, 4] rfl (by decide) rfl (by decide) (by decide) (fun _ => rfl) (by decide) rfl rfl (Nat.le_of_ble_eq_true rfl) dX7_bundle_26 ⟨Nat.le_of_ble_eq_true rfl, Nat.le_of_ble_eq_true rfl⟩ 29 rfl (eqk ?_)
      refine g_if_eq_b C dX7_bundle_29 36 32 (by decide) rfl (fun c29 => ?_) (fun c29 => ?_)
      · refine g_iconst (v := nI 2) C dX7_bundle_36 37 rfl (by decide) ?_
        refine g_put C (ty := .int) iw_X7_bundle_X7 tyX7 tyX7_ok nmX7 0 rfl rfl 0 (by decide) (by decide +kernel) rfl rfl (by decide +kernel) rfl rfl (Nat.le_of_ble_eq_true rfl) dX7_bundle_37 40 rfl (ws' := [(g0, .inr (11, [.int (nI 2), .int (nI mn), .ref g1, .ref g2, .int (nI mb), .ref g3, .ref g4, .ref g5, .int (nI mw), .ref g6, .ref g7, .ref g8, .ref g9, .ref g10, .long msa, .long msb, .ref g11, .ref g12, .ref g13, .ref g14, .ref g15, .int (nI mz), .ref g16, .ref g17, .ref g18, .int (nI mv), .ref g19, .int (nI my), .ref g20, .ref g21, .ref g22, .int wt, .int wr, .int fo])), (g3, .inl (cI, 15, .inl (fun jj => nI (mA jj)))), (g4, .inl (cI, 15, .inl (fun jj => nI (mB jj)))), (g5, .inl (cJ, 15, .inr (.inl mL))), (g2, .inl (cJ, 256, .inr (.inl fa)))]) rfl ?_
        refine g_aload_n C dX7_bundle_40 41 rfl rfl ?_
        refine g_get C iw_X7_bundle_X7 0 rfl rfl 0 (by decide) (by decide +kernel) rfl rfl dX7_bundle_41 44 rfl ?_
        refine g_if_eq_n C dX7_bundle_44 49 47 (by decide) rfl (by omega) (fun c44 => ?_) (fun c44 => ?_)
        · exact absurd c44 (by omega)
        · refine g_iconst (v := nI 0) C dX7_bundle_47 48 rfl (by decide) ?_
          exact g_iret C hQ (Nat.le_of_ble_eq_true rfl) (Nat.le_of_ble_eq_true rfl) dX7_bundle_48 (2, mb, mA, mB, mL, fa) (Or.inr (Or.inl ⟨rfl, inB_t (by omega) c6, inB_t (by omega) c14, wiB_f c29, rfl, rfl, rfl, rfl, rfl⟩)) (by first | (dsimp only; done) | rfl)
      · refine g_iconst (v := nI 0) C dX7_bundle_32 33 rfl (by decide) ?_
        refine g_goto C dX7_bundle_33 37 (by decide) ?_
        refine g_put C (ty := .int) iw_X7_bundle_X7 tyX7 tyX7_ok nmX7 0 rfl rfl 0 (by decide) (by decide +kernel) rfl rfl (by decide +kernel) rfl rfl (Nat.le_of_ble_eq_true rfl) dX7_bundle_37 40 rfl (ws' := [(g0, .inr (11, [.int (nI 0), .int (nI mn), .ref g1, .ref g2, .int (nI mb), .ref g3, .ref g4, .ref g5, .int (nI mw), .ref g6, .ref g7, .ref g8, .ref g9, .ref g10, .long msa, .long msb, .ref g11, .ref g12, .ref g13, .ref g14, .ref g15, .int (nI mz), .ref g16, .ref g17, .ref g18, .int (nI mv), .ref g19, .int (nI my), .ref g20, .ref g21, .ref g22, .int wt, .int wr, .int fo])), (g3, .inl (cI, 15, .inl (fun jj => nI (mA jj)))), (g4, .inl (cI, 15, .inl (fun jj => nI (mB jj)))), (g5, .inl (cJ, 15, .inr (.inl mL))), (g2, .inl (cJ, 256, .inr (.inl fa)))]) rfl ?_
        refine g_aload_n C dX7_bundle_40 41 rfl rfl ?_
        refine g_get C iw_X7_bundle_X7 0 rfl rfl 0 (by decide) (by decide +kernel) rfl rfl dX7_bundle_41 44 rfl ?_
        refine g_if_eq_n C dX7_bundle_44 49 47 (by decide) rfl (by omega) (fun c44 => ?_) (fun c44 => ?_)
        · have hra := inB_t (by omega) c6
          have hrb := inB_t (by omega) c14
          obtain ⟨a, ha, rfl⟩ := inB_t (by omega) c6
          obtain ⟨b, hb, rfl⟩ := inB_t (by omega) c14
          refine g_aload_n C dX7_bundle_49 50 rfl rfl ?_
          refine g_get C iw_X7_bundle_X7 0 rfl rfl 3 (by decide) (by decide +kernel) rfl rfl dX7_bundle_50 53 rfl ?_
          refine g_bipush (v := nI 16) C dX7_bundle_53 55 rfl (by decide) ?_
          refine g_iload_n C dX7_bundle_55 56 rfl rfl ?_
          refine g_imuln C dX7_bundle_56 57 rfl ?_
          refine g_iload_n C dX7_bundle_57 58 rfl rfl ?_
          refine g_iaddn C dX7_bundle_58 59 rfl ?_
          refine g_lald C 4 1 rfl rfl ((16 * a) + b) rfl (by omega) (by decide) dX7_bundle_59 60 rfl ?_
          refine g_lconst (v := 0) C dX7_bundle_60 61 rfl (by decide) ?_
          refine g_lc_lt C dX7_bundle_61 62 rfl dX7_bundle_62 67 65 (by decide) rfl (fun c61 => ?_) (fun c61 => ?_)
          · have hmb := h15 a b ha hb c61
            refine g_iconst (v := nI 0) C dX7_bundle_67 68 rfl (by decide) ?_
            refine g_istore C dX7_bundle_68 70 rfl (by decide) [1, 2, 3, 4, 0] (lv' := [(0, .ref g0), (1, .int (nI a)), (2, .int (nI b)), (3, .long len), (5, .int (nI 0))]) rfl ?_
            refine g_iconst (v := nI 0) C dX7_bundle_70 71 rfl (by decide) ?_
            refine g_istore C dX7_bundle_71 73 rfl (by decide) [1, 2, 3, 4, 5, 0] (lv' := [(0, .ref g0), (1, .int (nI a)), (2, .int (nI b)), (3, .long len), (5, .int (nI 0)), (6, .int (nI 0))]) rfl ?_
            refine g_iconst (v := nI 0) C dX7_bundle_73 74 rfl (by decide) ?_
            refine g_istore C dX7_bundle_74 76 rfl (by decide) [1, 2, 3, 4, 5, 6, 0] (lv' := [(0, .ref g0), (1, .int (nI a)), (2, .int (nI b)), (3, .long len), (5, .int (nI 0)), (6, .int (nI 0)), (7, .int (nI 0))]) rfl ?_
            have hbits : ∀ (fuel i : Nat), i ≤ mn → mn + 1 ≤ i + fuel → gx X 0 0 [(g0, .inr (11, [.int (nI 0), .int (nI mn), .ref g1, .ref g2, .int (nI mb), .ref g3, .ref g4, .ref g5, .int (nI mw), .ref g6, .ref g7, .ref g8, .ref g9, .ref g10, .long msa, .long msb, .ref g11, .ref g12, .ref g13, .ref g14, .ref g15, .int (nI mz), .ref g16, .ref g17, .ref g18, .int (nI mv), .ref g19, .int (nI my), .ref g20, .ref g21, .ref g22, .int wt, .int wr, .int fo])), (g3, .inl (cI, 15, .inl (fun jj => nI (mA jj)))), (g4, .inl (cI, 15, .inl (fun jj => nI (mB jj)))), (g5, .inl (cJ, 15, .inr (.inl mL))), (g2, .inl (cJ, 256, .inr (.inl fa)))] 76 [(0, .ref g0), (1, .int (nI a)), (2, .int (nI b)), (3, .long len), (5, .int (mtb fa a i)), (6, .int (mtb fa b i)), (7, .int (nI i))] [] := by
              intro fuel
              induction fuel with
              | zero => intro i h1 h2; exact absurd h2 (by omega)
              | succ fuel hbits_ih =>
                intro i hle hfu
                refine g_iload C dX7_bundle_76 78 rfl rfl ?_
                refine g_aload_n C dX7_bundle_78 79 rfl rfl ?_
                refine g_get C iw_X7_bundle_X7 0 rfl rfl 1 (by decide) (by decide +kernel) rfl rfl dX7_bundle_79 82 rfl ?_
                refine g_icmp_ge_n C dX7_bundle_82 153 85 (by decide) rfl (by omega) (by omega) (fun c82 => ?_) (fun c82 => ?_)
                · have e_i : mn = i := by omega
                  subst e_i
                  refine g_iconst (v := nI 0) C dX7_bundle_153 154 rfl (by decide) ?_
                  refine g_istore C dX7_bundle_154 156 rfl (by decide) [1, 2, 3, 4, 5, 6, 0] (lv' := [(0, .ref g0), (1, .int (nI a)), (2, .int (nI b)), (3, .long len), (5, .int (mtb fa a mn)), (6, .int (mtb fa b mn)), (7, .int (nI 0))]) rfl ?_
                  have hout : ∀ (fuel i : Nat), i ≤ mn → mn + 1 ≤ i + fuel → gx X 0 0 [(g0, .inr (11, [.int (nI 0), .int (nI mn), .ref g1, .ref g2, .int (nI mb), .ref g3, .ref g4, .ref g5, .int (nI mw), .ref g6, .ref g7, .ref g8, .ref g9, .ref g10, .long msa, .long msb, .ref g11, .ref g12, .ref g13, .ref g14, .ref g15, .int (nI mz), .ref g16, .ref g17, .ref g18, .int (nI mv), .ref g19, .int (nI my), .ref g20, .ref g21, .ref g22, .int wt, .int wr, .int fo])), (g3, .inl (cI, 15, .inl (fun jj => nI (mA jj)))), (g4, .inl (cI, 15, .inl (fun jj => nI (mB jj)))), (g5, .inl (cJ, 15, .inr (.inl mL))), (g2, .inl (cJ, 256, .inr (.inl (mall (mtb fa a mn) (mtb fa b mn) a b len mn fa i))))] 156 [(0, .ref g0), (1, .int (nI a)), (2, .int (nI b)), (3, .long len), (5, .int (mtb fa a mn)), (6, .int (mtb fa b mn)), (7, .int (nI i))] [] := by
                    intro fuel
                    induction fuel with
                    | zero => intro i h1 h2; exact absurd h2 (by omega)
                    | succ fuel hout_ih =>
                      intro i hle hfu
                      refine g_iload C dX7_bundle_156 158 rfl rfl ?_
                      refine g_aload_n C dX7_bundle_158 159 rfl rfl ?_
                      refine g_get C iw_X7_bundle_X7 0 rfl rfl 1 (by decide) (by decide +kernel) rfl rfl dX7_bundle_159 162 rfl ?_
                      refine g_icmp_ge_n C dX7_bundle_162 271 165 (by decide) rfl (by omega) (by omega) (fun c162 => ?_) (fun c162 => ?_)
                      · have e_i : mn = i := by omega
                        subst e_i
                        refine g_aload_n C dX7_bundle_271 272 rfl rfl ?_
                        refine g_get C iw_X7_bundle_X7 0 rfl rfl 5 (by decide) (by decide +kernel) rfl rfl dX7_bundle_272 275 rfl ?_
                        refine g_aload_n C dX7_bundle_275 276 rfl rfl ?_
                        refine g_get C iw_X7_bundle_X7 0 rfl rfl 4 (by decide) (by decide +kernel) rfl rfl dX7_bundle_276 279 rfl ?_
                        refine g_iload_n C dX7_bundle_279 280 rfl rfl ?_
                        refine g_iast C 1 0 rfl rfl mb rfl (by omega) (by decide) dX7_bundle_280 281 rfl (ws' := [(g0, .inr (11, [.int (nI 0), .int (nI mn), .ref g1, .ref g2, .int (nI mb), .ref g3, .ref g4, .ref g5, .int (nI mw), .ref g6, .ref g7, .ref g8, .ref g9, .ref g10, .long msa, .long msb, .ref g11, .ref g12, .ref g13, .ref g14, .ref g15, .int (nI mz), .ref g16, .ref g17, .ref g18, .int (nI mv), .ref g19, .int (nI my), .ref g20, .ref g21, .ref g22, .int wt, .int wr, .int fo])), (g3, .inl (cI, 15, .inl (fun jj => nI ((updN mA mb a) jj)))), (g4, .inl (cI, 15, .inl (fun jj => nI (mB jj)))), (g5, .inl (cJ, 15, .inr (.inl mL))), (g2, .inl (cJ, 256, .inr (.inl (mall (mtb fa a mn) (mtb fa b mn) a b len mn fa mn))))]) (by rw [upd_nI]; rfl) ?_
                        refine g_aload_n C dX7_bundle_281 282 rfl rfl ?_
                        refine g_get C iw_X7_bundle_X7 0 rfl rfl 6 (by decide) (by decide +kernel) rfl rfl dX7_bundle_282 285 rfl ?_
                        refine g_aload_n C dX7_bundle_285 286 rfl rfl ?_
                        refine g_get C iw_X7_bundle_X7 0 rfl rfl 4 (by decide) (by decide +kernel) rfl rfl dX7_bundle_286 289 rfl ?_
                        refine g_iload_n C dX7_bundle_289 290 rfl rfl ?_
                        refine g_iast C 2 0 rfl rfl mb rfl (by omega) (by decide) dX7_bundle_290 291 rfl (ws' := [(g0, .inr (11, [.int (nI 0), .int (nI mn), .ref g1, .ref g2, .int (nI mb), .ref g3, .ref g4, .ref g5, .int (nI mw), .ref g6, .ref g7, .ref g8, .ref g9, .ref g10, .long msa, .long msb, .ref g11, .ref g12, .ref g13, .ref g14, .ref g15, .int (nI mz), .ref g16, .ref g17, .ref g18, .int (nI mv), .ref g19, .int (nI my), .ref g20, .ref g21, .ref g22, .int wt, .int wr, .int fo])), (g3, .inl (cI, 15, .inl (fun jj => nI ((updN mA mb a) jj)))), (g4, .inl (cI, 15, .inl (fun jj => nI ((updN mB mb b) jj)))), (g5, .inl (cJ, 15, .inr (.inl mL))), (g2, .inl (cJ, 256, .inr (.inl (mall (mtb fa a mn) (mtb fa b mn) a b len mn fa mn))))]) (by rw [upd_nI]; rfl) ?_
                        refine g_aload_n C dX7_bundle_291 292 rfl rfl ?_
                        refine g_get C iw_X7_bundle_X7 0 rfl rfl 7 (by decide) (by decide +kernel) rfl rfl dX7_bundle_292 295 rfl ?_
                        refine g_aload_n C dX7_bundle_295 296 rfl rfl ?_
                        refine g_get C iw_X7_bundle_X7 0 rfl rfl 4 (by decide) (by decide +kernel) rfl rfl dX7_bundle_296 299 rfl ?_
                        refine g_lload_n C dX7_bundle_299 300 rfl rfl ?_
                        refine g_last C 3 1 rfl rfl mb rfl (by omega) (by decide) dX7_bundle_300 301 rfl (ws' := [(g0, .inr (11, [.int (nI 0), .int (nI mn), .ref g1, .ref g2, .int (nI mb), .ref g3, .ref g4, .ref g5, .int (nI mw), .ref g6, .ref g7, .ref g8, .ref g9, .ref g10, .long msa, .long msb, .ref g11, .ref g12, .ref g13, .ref g14, .ref g15, .int (nI mz), .ref g16, .ref g17, .ref g18, .int (nI mv), .ref g19, .int (nI my), .ref g20, .ref g21, .ref g22, .int wt, .int wr, .int fo])), (g3, .inl (cI, 15, .inl (fun jj => nI ((updN mA mb a) jj)))), (g4, .inl (cI, 15, .inl (fun jj => nI ((updN mB mb b) jj)))), (g5, .inl (cJ, 15, .inr (.inl (vp_updL mL mb len)))), (g2, .inl (cJ, 256, .inr (.inl (mall (mtb fa a mn) (mtb fa b mn) a b len mn fa mn))))]) rfl ?_
                        refine g_aload_n C dX7_bundle_301 302 rfl rfl ?_
                        refine g_dup C dX7_bundle_302 303 rfl rfl ?_
                        refine g_get C iw_X7_bundle_X7 0 rfl rfl 4 (by decide) (by decide +kernel) rfl rfl dX7_bundle_303 306 rfl ?_
                        refine g_iconst (v := nI 1) C dX7_bundle_306 307 rfl (by decide) ?_
                        refine g_iaddn C dX7_bundle_307 308 rfl ?_
                        refine g_put C (ty := .int) iw_X7_bundle_X7 tyX7 tyX7_ok nmX7 0 rfl rfl 4 (by decide) (by decide +kernel) rfl rfl (by decide +kernel) rfl rfl (Nat.le_of_ble_eq_true rfl) dX7_bundle_308 311 rfl (ws' := [(g0, .inr (11, [.int (nI 0), .int (nI mn), .ref g1, .ref g2, .int (nI (mb + 1)), .ref g3, .ref g4, .ref g5, .int (nI mw), .ref g6, .ref g7, .ref g8, .ref g9, .ref g10, .long msa, .long msb, .ref g11, .ref g12, .ref g13, .ref g14, .ref g15, .int (nI mz), .ref g16, .ref g17, .ref g18, .int (nI mv), .ref g19, .int (nI my), .ref g20, .ref g21, .ref g22, .int wt, .int wr, .int fo])), (g3, .inl (cI, 15, .inl (fun jj => nI ((updN mA mb a) jj)))), (g4, .inl (cI, 15, .inl (fun jj => nI ((updN mB mb b) jj)))), (g5, .inl (cJ, 15, .inr (.inl (vp_updL mL mb len)))), (g2, .inl (cJ, 256, .inr (.inl (mall (mtb fa a mn) (mtb fa b mn) a b len mn fa mn))))]) rfl ?_
                        refine g_aload_n C dX7_bundle_311 312 rfl rfl ?_
                        refine g_get C iw_X7_bundle_X7 0 rfl rfl 4 (by decide) (by decide +kernel) rfl rfl dX7_bundle_312 315 rfl ?_
                        refine g_iconst (v := nI 1) C dX7_bundle_315 316 rfl (by decide) ?_
                        refine g_isubn C dX7_bundle_316 317 rfl (by omega) ?_
                        exact g_iret C hQ (Nat.le_of_ble_eq_true rfl) (Nat.le_of_ble_eq_true rfl) dX7_bundle_317 (0, mb + 1, updN mA mb a, updN mB mb b, vp_updL mL mb len, mall (mtb fa a mn) (mtb fa b mn) a b len mn fa mn) (Or.inr (Or.inr ⟨rfl, hra, hrb, wiB_t c29, by dsimp only; rw [cN_nI (by omega), cN_nI (by omega), Gbundle, if_pos c61, show mb + 1 - 1 = mb by omega]⟩)) (by first | (dsimp only; done) | rfl)
                      · refine g_iconst (v := nI 0) C dX7_bundle_165 166 rfl (by decide) ?_
                        refine g_istore C dX7_bundle_166 168 rfl (by decide) [1, 2, 3, 4, 5, 6, 7, 0] (lv' := [(0, .ref g0), (1, .int (nI a)), (2, .int (nI b)), (3, .long len), (5, .int (mtb fa a mn)), (6, .int (mtb fa b mn)), (7, .int (nI i)), (8, .int (nI 0))]) rfl ?_
                        have hin2 : ∀ (fuel j : Nat), j ≤ mn → mn + 1 ≤ j + fuel → gx X 0 0 [(g0, .inr (11, [.int (nI 0), .int (nI mn), .ref g1, .ref g2, .int (nI mb), .ref g3, .ref g4, .ref g5, .int (nI mw), .ref g6, .ref g7, .ref g8, .ref g9, .ref g10, .long msa, .long msb, .ref g11, .ref g12, .ref g13, .ref g14, .ref g15, .int (nI mz), .ref g16, .ref g17, .ref g18, .int (nI mv), .ref g19, .int (nI my), .ref g20, .ref g21, .ref g22, .int wt, .int wr, .int fo])), (g3, .inl (cI, 15, .inl (fun jj => nI (mA jj)))), (g4, .inl (cI, 15, .inl (fun jj => nI (mB jj)))), (g5, .inl (cJ, 15, .inr (.inl mL))), (g2, .inl (cJ, 256, .inr (.inl (mrow (mtb fa a mn) (mtb fa b mn) a b len i (mall (mtb fa a mn) (mtb fa b mn) a b len mn fa i) j))))] 168 [(0, .ref g0), (1, .int (nI a)), (2, .int (nI b)), (3, .long len), (5, .int (mtb fa a mn)), (6, .int (mtb fa b mn)), (7, .int (nI i)), (8, .int (nI j))] [] := by
                          intro fuel
                          induction fuel with
                          | zero => intro j h1 h2; exact absurd h2 (by omega)
                          | succ fuel hin2_ih =>
                            intro j hle hfu
                            refine g_iload C dX7_bundle_168 170 rfl rfl ?_
                            refine g_aload_n C dX7_bundle_170 171 rfl rfl ?_
                            refine g_get C iw_X7_bundle_X7 0 rfl rfl 1 (by decide) (by decide +kernel) rfl rfl dX7_bundle_171 174 rfl ?_
                            refine g_icmp_ge_n C dX7_bundle_174 265 177 (by decide) rfl (by omega) (by omega) (fun c174 => ?_) (fun c174 => ?_)
                            · have e_j : mn = j := by omega
                              subst e_j
                              refine g_iinc (v := nI (i + 1)) C dX7_bundle_265 268 rfl rfl (nI_add i 1) (by decide) [1, 2, 3, 4, 5, 6, 0, 7] (lv' := [(0, .ref g0), (1, .int (nI a)), (2, .int (nI b)), (3, .long len), (5, .int (mtb fa a mn)), (6, .int (mtb fa b mn)), (7, .int (nI (i + 1))), (8, .int (nI mn))]) rfl ?_
                              refine g_goto C dX7_bundle_268 156 (by decide) ?_
                              refine g_lv [0, 1, 2, 3, 4, 5, 6] (lv' := [(0, .ref g0), (1, .int (nI a)), (2, .int (nI b)), (3, .long len), (5, .int (mtb fa a mn)), (6, .int (mtb fa b mn)), (7, .int (nI (i + 1)))]) rfl ?_
                              rw [show mrow (mtb fa a mn) (mtb fa b mn) a b len i (mall (mtb fa a mn) (mtb fa b mn) a b len mn fa i) mn = mall (mtb fa a mn) (mtb fa b mn) a b len mn fa (i + 1) from rfl]
                              exact hout_ih (i + 1) (by omega) (by omega)
                            · refine g_iload C dX7_bundle_177 179 rfl rfl ?_
                              refine g_iload C dX7_bundle_179 181 rfl rfl ?_
                              refine g_ishr C dX7_bundle_181 182 rfl ?_
                              refine g_iconst (v := nI 1) C dX7_bundle_182 183 rfl (by decide) ?_
                              refine g_iand C dX7_bundle_183 184 rfl ?_
                              refine g_if_eq C dX7_bundle_184 259 187 (by decide) rfl (fun c184 => ?_) (fun c184 => ?_)
                              · refine g_iinc (v := nI (j + 1)) C dX7_bundle_259 262 rfl rfl (nI_add j 1) (by decide) [1, 2, 3, 4, 5, 6, 7, 0] (lv' := [(0, .ref g0), (1, .int (nI a)), (2, .int (nI b)), (3, .long len), (5, .int (mtb fa a mn)), (6, .int (mtb fa b mn)), (7, .int (nI i)), (8, .int (nI (j + 1)))]) rfl ?_
                                refine g_goto C dX7_bundle_262 168 (by decide) ?_
                                rw [show mrow (mtb fa a mn) (mtb fa b mn) a b len i (mall (mtb fa a mn) (mtb fa b mn) a b len mn fa i) j = mrow (mtb fa a mn) (mtb fa b mn) a b len i (mall (mtb fa a mn) (mtb fa b mn) a b len mn fa i) (j + 1) from by simp only [mrow]; rw [if_neg (fun q => by rw [(hb_iff (by omega)).mp c184] at q; cases q.1)]]
                                exact hin2_ih (j + 1) (by omega) (by omega)
                              · refine g_iload C dX7_bundle_187 189 rfl rfl ?_
                                refine g_iload C dX7_bundle_189 191 rfl rfl ?_
                                refine g_ishr C dX7_bundle_191 192 rfl ?_
                                refine g_iconst (v := nI 1) C dX7_bundle_192 193 rfl (by decide) ?_
                                refine g_iand C dX7_bundle_193 194 rfl ?_
                                refine g_if_ne C dX7_bundle_194 200 197 (by decide) rfl (fun c194 => ?_) (fun c194 => ?_)
                                · refine g_aload_n C dX7_bundle_200 201 rfl rfl ?_
                                  refine g_get C iw_X7_bundle_X7 0 rfl rfl 3 (by decide) (by decide +kernel) rfl rfl dX7_bundle_201 204 rfl ?_
                                  refine g_bipush (v := nI 16) C dX7_bundle_204 206 rfl (by decide) ?_
                                  refine g_iload C dX7_bundle_206 208 rfl rfl ?_
                                  refine g_imuln C dX7_bundle_208 209 rfl ?_
                                  refine g_iload_n C dX7_bundle_209 210 rfl rfl ?_
                                  refine g_iaddn C dX7_bundle_210 211 rfl ?_
                                  refine g_lald C 4 1 rfl rfl ((16 * i) + a) rfl (by omega) (by decide) dX7_bundle_211 212 rfl ?_
                                  refine g_lload_n C dX7_bundle_212 213 rfl rfl ?_
                                  refine g_ladd C dX7_bundle_213 214 rfl ?_
                                  refine g_aload_n C dX7_bundle_214 215 rfl rfl ?_
                                  refine g_get C iw_X7_bundle_X7 0 rfl rfl 3 (by decide) (by decide +kernel) rfl rfl dX7_bundle_215 218 rfl ?_
                                  refine g_bipush (v := nI 16) C dX7_bundle_218 220 rfl (by decide) ?_
                                  refine g_iload_n C dX7_bundle_220 221 rfl rfl ?_
                                  refine g_imuln C dX7_bundle_221 222 rfl ?_
                                  refine g_iload C dX7_bundle_222 224 rfl rfl ?_
                                  refine g_iaddn C dX7_bundle_224 225 rfl ?_
                                  refine g_lald C 4 1 rfl rfl ((16 * b) + j) rfl (by omega) (by decide) dX7_bundle_225 226 rfl ?_
                                  refine g_ladd C dX7_bundle_226 227 rfl ?_
                                  refine g_lstore C dX7_bundle_227 229 rfl (by decide) [1, 2, 3, 4, 5, 6, 7, 8, 0] (lv' := [(0, .ref g0), (1, .int (nI a)), (2, .int (nI b)), (3, .long len), (5, .int (mtb fa a mn)), (6, .int (mtb fa b mn)), (7, .int (nI i)), (8, .int (nI j)), (9, .long ((((mrow (mtb fa a mn) (mtb fa b mn) a b len i (mall (mtb fa a mn) (mtb fa b mn) a b len mn fa i) j) ((16 * i) + a)) + len) + ((mrow (mtb fa a mn) (mtb fa b mn) a b len i (mall (mtb fa a mn) (mtb fa b mn) a b len mn fa i) j) ((16 * b) + j))))]) rfl ?_
                                  refine g_aload_n C dX7_bundle_229 230 rfl rfl ?_
                                  refine g_get C iw_X7_bundle_X7 0 rfl rfl 3 (by decide) (by decide +kernel) rfl rfl dX7_bundle_230 233 rfl ?_
                                  refine g_bipush (v := nI 16) C dX7_bundle_233 235 rfl (by decide) ?_
                                  refine g_iload C dX7_bundle_235 237 rfl rfl ?_
                                  refine g_imuln C dX7_bundle_237 238 rfl ?_
                                  refine g_iload C dX7_bundle_238 240 rfl rfl ?_
                                  refine g_iaddn C dX7_bundle_240 241 rfl ?_
                                  refine g_lload C dX7_bundle_241 243 rfl rfl ?_
                                  refine g_last C 4 1 rfl rfl ((16 * i) + j) rfl (by omega) (by decide) dX7_bundle_243 244 rfl (ws' := [(g0, .inr (11, [.int (nI 0), .int (nI mn), .ref g1, .ref g2, .int (nI mb), .ref g3, .ref g4, .ref g5, .int (nI mw), .ref g6, .ref g7, .ref g8, .ref g9, .ref g10, .long msa, .long msb, .ref g11, .ref g12, .ref g13, .ref g14, .ref g15, .int (nI mz), .ref g16, .ref g17, .ref g18, .int (nI mv), .ref g19, .int (nI my), .ref g20, .ref g21, .ref g22, .int wt, .int wr, .int fo])), (g3, .inl (cI, 15, .inl (fun jj => nI (mA jj)))), (g4, .inl (cI, 15, .inl (fun jj => nI (mB jj)))), (g5, .inl (cJ, 15, .inr (.inl mL))), (g2, .inl (cJ, 256, .inr (.inl (vp_updL (mrow (mtb fa a mn) (mtb fa b mn) a b len i (mall (mtb fa a mn) (mtb fa b mn) a b len mn fa i) j) ((16 * i) + j) ((((mrow (mtb fa a mn) (mtb fa b mn) a b len i (mall (mtb fa a mn) (mtb fa b mn) a b len mn fa i) j) ((16 * i) + a)) + len) + ((mrow (mtb fa a mn) (mtb fa b mn) a b len i (mall (mtb fa a mn) (mtb fa b mn) a b len mn fa i) j) ((16 * b) + j)))))))]) rfl ?_
                                  refine g_aload_n C dX7_bundle_244 245 rfl rfl ?_
                                  refine g_get C iw_X7_bundle_X7 0 rfl rfl 3 (by decide) (by decide +kernel) rfl rfl dX7_bundle_245 248 rfl ?_
                                  refine g_bipush (v := nI 16) C dX7_bundle_248 250 rfl (by decide) ?_
                                  refine g_iload C dX7_bundle_250 252 rfl rfl ?_
                                  refine g_imuln C dX7_bundle_252 253 rfl ?_
                                  refine g_iload C dX7_bundle_253 255 rfl rfl ?_
                                  refine g_iaddn C dX7_bundle_255 256 rfl ?_
                                  refine g_lload C dX7_bundle_256 258 rfl rfl ?_
                                  refine g_last C 4 1 rfl rfl ((16 * j) + i) rfl (by omega) (by decide) dX7_bundle_258 259 rfl (ws' := [(g0, .inr (11, [.int (nI 0), .int (nI mn), .ref g1, .ref g2, .int (nI mb), .ref g3, .ref g4, .ref g5, .int (nI mw), .ref g6, .ref g7, .ref g8, .ref g9, .ref g10, .long msa, .long msb, .ref g11, .ref g12, .ref g13, .ref g14, .ref g15, .int (nI mz), .ref g16, .ref g17, .ref g18, .int (nI mv), .ref g19, .int (nI my), .ref g20, .ref g21, .ref g22, .int wt, .int wr, .int fo])), (g3, .inl (cI, 15, .inl (fun jj => nI (mA jj)))), (g4, .inl (cI, 15, .inl (fun jj => nI (mB jj)))), (g5, .inl (cJ, 15, .inr (.inl mL))), (g2, .inl (cJ, 256, .inr (.inl (vp_updL (vp_updL (mrow (mtb fa a mn) (mtb fa b mn) a b len i (mall (mtb fa a mn) (mtb fa b mn) a b len mn fa i) j) ((16 * i) + j) ((((mrow (mtb fa a mn) (mtb fa b mn) a b len i (mall (mtb fa a mn) (mtb fa b mn) a b len mn fa i) j) ((16 * i) + a)) + len) + ((mrow (mtb fa a mn) (mtb fa b mn) a b len i (mall (mtb fa a mn) (mtb fa b mn) a b len mn fa i) j) ((16 * b) + j)))) ((16 * j) + i) ((((mrow (mtb fa a mn) (mtb fa b mn) a b len i (mall (mtb fa a mn) (mtb fa b mn) a b len mn fa i) j) ((16 * i) + a)) + len) + ((mrow (mtb fa a mn) (mtb fa b mn) a b len i (mall (mtb fa a mn) (mtb fa b mn) a b len mn fa i) j) ((16 * b) + j)))))))]) rfl ?_
                                  refine g_iinc (v := nI (j + 1)) C dX7_bundle_259 262 rfl rfl (nI_add j 1) (by decide) [1, 2, 3, 4, 5, 6, 7, 0, 8] (lv' := [(0, .ref g0), (1, .int (nI a)), (2, .int (nI b)), (3, .long len), (5, .int (mtb fa a mn)), (6, .int (mtb fa b mn)), (7, .int (nI i)), (8, .int (nI (j + 1))), (9, .long ((((mrow (mtb fa a mn) (mtb fa b mn) a b len i (mall (mtb fa a mn) (mtb fa b mn) a b len mn fa i) j) ((16 * i) + a)) + len) + ((mrow (mtb fa a mn) (mtb fa b mn) a b len i (mall (mtb fa a mn) (mtb fa b mn) a b len mn fa i) j) ((16 * b) + j))))]) rfl ?_
                                  refine g_goto C dX7_bundle_262 168 (by decide) ?_
                                  refine g_lv [0, 1, 2, 3, 4, 5, 6, 7] (lv' := [(0, .ref g0), (1, .int (nI a)), (2, .int (nI b)), (3, .long len), (5, .int (mtb fa a mn)), (6, .int (mtb fa b mn)), (7, .int (nI i)), (8, .int (nI (j + 1)))]) rfl ?_
                                  rw [show vp_updL (vp_updL (mrow (mtb fa a mn) (mtb fa b mn) a b len i (mall (mtb fa a mn) (mtb fa b mn) a b len mn fa i) j) ((16 * i) + j) ((((mrow (mtb fa a mn) (mtb fa b mn) a b len i (mall (mtb fa a mn) (mtb fa b mn) a b len mn fa i) j) ((16 * i) + a)) + len) + ((mrow (mtb fa a mn) (mtb fa b mn) a b len i (mall (mtb fa a mn) (mtb fa b mn) a b len mn fa i) j) ((16 * b) + j)))) ((16 * j) + i) ((((mrow (mtb fa a mn) (mtb fa b mn) a b len i (mall (mtb fa a mn) (mtb fa b mn) a b len mn fa i) j) ((16 * i) + a)) + len) + ((mrow (mtb fa a mn) (mtb fa b mn) a b len i (mall (mtb fa a mn) (mtb fa b mn) a b len mn fa i) j) ((16 * b) + j))) = mrow (mtb fa a mn) (mtb fa b mn) a b len i (mall (mtb fa a mn) (mtb fa b mn) a b len mn fa i) (j + 1) from by simp only [mrow, if_pos (And.intro (hb_t (by omega) c184) (hb_t (by omega) c194))]; rfl]
                                  exact hin2_ih (j + 1) (by omega) (by omega)
                                · refine g_goto C dX7_bundle_197 259 (by decide) ?_
                                  refine g_iinc (v := nI (j + 1)) C dX7_bundle_259 262 rfl rfl (nI_add j 1) (by decide) [1, 2, 3, 4, 5, 6, 7, 0] (lv' := [(0, .ref g0), (1, .int (nI a)), (2, .int (nI b)), (3, .long len), (5, .int (mtb fa a mn)), (6, .int (mtb fa b mn)), (7, .int (nI i)), (8, .int (nI (j + 1)))]) rfl ?_
                                  refine g_goto C dX7_bundle_262 168 (by decide) ?_
                                  rw [show mrow (mtb fa a mn) (mtb fa b mn) a b len i (mall (mtb fa a mn) (mtb fa b mn) a b len mn fa i) j = mrow (mtb fa a mn) (mtb fa b mn) a b len i (mall (mtb fa a mn) (mtb fa b mn) a b len mn fa i) (j + 1) from by simp only [mrow]; rw [if_neg (fun q => by rw [(hb_iff (by omega)).mp c194] at q; cases q.2)]]
                                  exact hin2_ih (j + 1) (by omega) (by omega)
                        rw [show mall (mtb fa a mn) (mtb fa b mn) a b len mn fa i = mrow (mtb fa a mn) (mtb fa b mn) a b len i (mall (mtb fa a mn) (mtb fa b mn) a b len mn fa i) 0 from rfl]
                        exact hin2 (mn + 1) 0 (by omega) (by omega)
                  exact hout (mn + 1) 0 (by omega) (by omega)
                · refine g_aload_n C dX7_bundle_85 86 rfl rfl ?_
                  refine g_get C iw_X7_bundle_X7 0 rfl rfl 3 (by decide) (by decide +kernel) rfl rfl dX7_bundle_86 89 rfl ?_
                  refine g_bipush (v := nI 16) C dX7_bundle_89 91 rfl (by decide) ?_
                  refine g_iload C dX7_bundle_91 93 rfl rfl ?_
                  refine g_imuln C dX7_bundle_93 94 rfl ?_
                  refine g_iload_n C dX7_bundle_94 95 rfl rfl ?_
                  refine g_iaddn C dX7_bundle_95 96 rfl ?_
                  refine g_lald C 4 1 rfl rfl ((16 * i) + a) rfl (by omega) (by decide) dX7_bundle_96 97 rfl ?_
                  refine g_lconst (v := 0) C dX7_bundle_97 98 rfl (by decide) ?_
                  refine g_lc_lt C dX7_bundle_98 99 rfl dX7_bundle_99 112 102 (by decide) rfl (fun c98 => ?_) (fun c98 => ?_)
                  · refine g_iload C dX7_bundle_112 114 rfl rfl ?_
                    refine g_istore C dX7_bundle_114 116 rfl (by decide) [1, 2, 3, 4, 0, 5, 6] (lv' := [(0, .ref g0), (1, .int (nI a)), (2, .int (nI b)), (3, .long len), (5, .int (mtb fa a i)), (6, .int (mtb fa b i)), (7, .int (nI i))]) rfl ?_
                    refine g_aload_n C dX7_bundle_116 117 rfl rfl ?_
                    refine g_get C iw_X7_bundle_X7 0 rfl rfl 3 (by decide) (by decide +kernel) rfl rfl dX7_bundle_117 120 rfl ?_
                    refine g_bipush (v := nI 16) C dX7_bundle_120 122 rfl (by decide) ?_
                    refine g_iload C dX7_bundle_122 124 rfl rfl ?_
                    refine g_imuln C dX7_bundle_124 125 rfl ?_
                    refine g_iload_n C dX7_bundle_125 126 rfl rfl ?_
                    refine g_iaddn C dX7_bundle_126 127 rfl ?_
                    refine g_lald C 4 1 rfl rfl ((16 * i) + b) rfl (by omega) (by decide) dX7_bundle_127 128 rfl ?_
                    refine g_lconst (v := 0) C dX7_bundle_128 129 rfl (by decide) ?_
                    refine g_lc_lt C dX7_bundle_129 130 rfl dX7_bundle_130 143 133 (by decide) rfl (fun c129 => ?_) (fun c129 => ?_)
                    · refine g_iload C dX7_bundle_143 145 rfl rfl ?_
                      refine g_istore C dX7_bundle_145 147 rfl (by decide) [1, 2, 3, 4, 5, 0, 6] (lv' := [(0, .ref g0), (1, .int (nI a)), (2, .int (nI b)), (3, .long len), (5, .int (mtb fa a i)), (6, .int (mtb fa b i)), (7, .int (nI i))]) rfl ?_
                      refine g_iinc (v := nI (i + 1)) C dX7_bundle_147 150 rfl rfl (nI_add i 1) (by decide) [1, 2, 3, 4, 5, 6, 0] (lv' := [(0, .ref g0), (1, .int (nI a)), (2, .int (nI b)), (3, .long len), (5, .int (mtb fa a i)), (6, .int (mtb fa b i)), (7, .int (nI (i + 1)))]) rfl ?_
                      refine g_goto C dX7_bundle_150 76 (by decide) ?_
                      rw [show mtb fa a i = mtb fa a (i + 1) from by simp only [mtb, if_pos c98]]
                      rw [show mtb fa b i = mtb fa b (i + 1) from by simp only [mtb, if_pos c129]]
                      exact hbits_ih (i + 1) (by omega) (by omega)
                    · refine g_iload C dX7_bundle_133 135 rfl rfl ?_
                      refine g_iconst (v := nI 1) C dX7_bundle_135 136 rfl (by decide) ?_
                      refine g_iload C dX7_bundle_136 138 rfl rfl ?_
                      refine g_ishl C dX7_bundle_138 139 rfl ?_
                      refine g_ior C dX7_bundle_139 140 rfl ?_
                      refine g_goto C dX7_bundle_140 145 (by decide) ?_
                      refine g_istore C dX7_bundle_145 147 rfl (by decide) [1, 2, 3, 4, 5, 0, 6] (lv' := [(0, .ref g0), (1, .int (nI a)), (2, .int (nI b)), (3, .long len), (5, .int (mtb fa a i)), (6, .int ((mtb fa b i) ||| ((nI 1) <<< (nI i &&& 31)))), (7, .int (nI i))]) rfl ?_
                      refine g_iinc (v := nI (i + 1)) C dX7_bundle_147 150 rfl rfl (nI_add i 1) (by decide) [1, 2, 3, 4, 5, 6, 0] (lv' := [(0, .ref g0), (1, .int (nI a)), (2, .int (nI b)), (3, .long len), (5, .int (mtb fa a i)), (6, .int ((mtb fa b i) ||| ((nI 1) <<< (nI i &&& 31)))), (7, .int (nI (i + 1)))]) rfl ?_
                      refine g_goto C dX7_bundle_150 76 (by decide) ?_
                      rw [show mtb fa a i = mtb fa a (i + 1) from by simp only [mtb, if_pos c98]]
                      rw [show (mtb fa b i) ||| ((nI 1) <<< (nI i &&& 31)) = mtb fa b (i + 1) from by simp only [mtb, if_neg c129]]
                      exact hbits_ih (i + 1) (by omega) (by omega)
                  · refine g_iload C dX7_bundle_102 104 rfl rfl ?_
                    refine g_iconst (v := nI 1) C dX7_bundle_104 105 rfl (by decide) ?_
                    refine g_iload C dX7_bundle_105 107 rfl rfl ?_
                    refine g_ishl C dX7_bundle_107 108 rfl ?_
                    refine g_ior C dX7_bundle_108 109 rfl ?_
                    refine g_goto C dX7_bundle_109 114 (by decide) ?_
                    refine g_istore C dX7_bundle_114 116 rfl (by decide) [1, 2, 3, 4, 0, 5, 6] (lv' := [(0, .ref g0), (1, .int (nI a)), (2, .int (nI b)), (3, .long len), (5, .int ((mtb fa a i) ||| ((nI 1) <<< (nI i &&& 31)))), (6, .int (mtb fa b i)), (7, .int (nI i))]) rfl ?_
                    refine g_aload_n C dX7_bundle_116 117 rfl rfl ?_
                    refine g_get C iw_X7_bundle_X7 0 rfl rfl 3 (by decide) (by decide +kernel) rfl rfl dX7_bundle_117 120 rfl ?_
                    refine g_bipush (v := nI 16) C dX7_bundle_120 122 rfl (by decide) ?_
                    refine g_iload C dX7_bundle_122 124 rfl rfl ?_
                    refine g_imuln C dX7_bundle_124 125 rfl ?_
                    refine g_iload_n C dX7_bundle_125 126 rfl rfl ?_
                    refine g_iaddn C dX7_bundle_126 127 rfl ?_
                    refine g_lald C 4 1 rfl rfl ((16 * i) + b) rfl (by omega) (by decide) dX7_bundle_127 128 rfl ?_
                    refine g_lconst (v := 0) C dX7_bundle_128 129 rfl (by decide) ?_
                    refine g_lc_lt C dX7_bundle_129 130 rfl dX7_bundle_130 143 133 (by decide) rfl (fun c129 => ?_) (fun c129 => ?_)
                    · refine g_iload C dX7_bundle_143 145 rfl rfl ?_
                      refine g_istore C dX7_bundle_145 147 rfl (by decide) [1, 2, 3, 4, 5, 0, 6] (lv' := [(0, .ref g0), (1, .int (nI a)), (2, .int (nI b)), (3, .long len), (5, .int ((mtb fa a i) ||| ((nI 1) <<< (nI i &&& 31)))), (6, .int (mtb fa b i)), (7, .int (nI i))]) rfl ?_
                      refine g_iinc (v := nI (i + 1)) C dX7_bundle_147 150 rfl rfl (nI_add i 1) (by decide) [1, 2, 3, 4, 5, 6, 0] (lv' := [(0, .ref g0), (1, .int (nI a)), (2, .int (nI b)), (3, .long len), (5, .int ((mtb fa a i) ||| ((nI 1) <<< (nI i &&& 31)))), (6, .int (mtb fa b i)), (7, .int (nI (i + 1)))]) rfl ?_
                      refine g_goto C dX7_bundle_150 76 (by decide) ?_
                      rw [show (mtb fa a i) ||| ((nI 1) <<< (nI i &&& 31)) = mtb fa a (i + 1) from by simp only [mtb, if_neg c98]]
                      rw [show mtb fa b i = mtb fa b (i + 1) from by simp only [mtb, if_pos c129]]
                      exact hbits_ih (i + 1) (by omega) (by omega)
                    · refine g_iload C dX7_bundle_133 135 rfl rfl ?_
                      refine g_iconst (v := nI 1) C dX7_bundle_135 136 rfl (by decide) ?_
                      refine g_iload C dX7_bundle_136 138 rfl rfl ?_
                      refine g_ishl C dX7_bundle_138 139 rfl ?_
                      refine g_ior C dX7_bundle_139 140 rfl ?_
                      refine g_goto C dX7_bundle_140 145 (by decide) ?_
                      refine g_istore C dX7_bundle_145 147 rfl (by decide) [1, 2, 3, 4, 5, 0, 6] (lv' := [(0, .ref g0), (1, .int (nI a)), (2, .int (nI b)), (3, .long len), (5, .int ((mtb fa a i) ||| ((nI 1) <<< (nI i &&& 31)))), (6, .int ((mtb fa b i) ||| ((nI 1) <<< (nI i &&& 31)))), (7, .int (nI i))]) rfl ?_
                      refine g_iinc (v := nI (i + 1)) C dX7_bundle_147 150 rfl rfl (nI_add i 1) (by decide) [1, 2, 3, 4, 5, 6, 0] (lv' := [(0, .ref g0), (1, .int (nI a)), (2, .int (nI b)), (3, .long len), (5, .int ((mtb fa a i) ||| ((nI 1) <<< (nI i &&& 31)))), (6, .int ((mtb fa b i) ||| ((nI 1) <<< (nI i &&& 31)))), (7, .int (nI (i + 1)))]) rfl ?_
                      refine g_goto C dX7_bundle_150 76 (by decide) ?_
                      rw [show (mtb fa a i) ||| ((nI 1) <<< (nI i &&& 31)) = mtb fa a (i + 1) from by simp only [mtb, if_neg c98]]
                      rw [show (mtb fa b i) ||| ((nI 1) <<< (nI i &&& 31)) = mtb fa b (i + 1) from by simp only [mtb, if_neg c129]]
                      exact hbits_ih (i + 1) (by omega) (by omega)
            exact hbits (mn + 1) 0 (by omega) (by omega)
          · refine g_iconst (v := -1) C dX7_bundle_65 66 rfl (by decide) ?_
            exact g_iret C hQ (Nat.le_of_ble_eq_true rfl) (Nat.le_of_ble_eq_true rfl) dX7_bundle_66 (0, mb, mA, mB, mL, fa) (Or.inr (Or.inr ⟨rfl, hra, hrb, wiB_t c29, by dsimp only; rw [cN_nI (by omega), cN_nI (by omega), Gbundle, if_neg c61]⟩)) (by first | (dsimp only; done) | rfl)
        · exact absurd c44 (by omega)
    · refine g_iconst (v := nI 1) C dX7_bundle_17 18 rfl (by decide) ?_
      refine g_goto C dX7_bundle_18 37 (by decide) ?_
      refine g_put C (ty := .int) iw_X7_bundle_X7 tyX7 tyX7_ok nmX7 0 rfl rfl 0 (by decide) (by decide +kernel) rfl rfl (by decide +kernel) rfl rfl (Nat.le_of_ble_eq_true rfl) dX7_bundle_37 40 rfl (ws' := [(g0, .inr (11, [.int (nI 1), .int (nI mn), .ref g1, .ref g2, .int (nI mb), .ref g3, .ref g4, .ref g5, .int (nI mw), .ref g6, .ref g7, .ref g8, .ref g9, .ref g10, .long msa, .long msb, .ref g11, .ref g12, .ref g13, .ref g14, .ref g15, .int (nI mz), .ref g16, .ref g17, .ref g18, .int (nI mv), .ref g19, .int (nI my), .ref g20, .ref g21, .ref g22, .int wt, .int wr, .int fo])), (g3, .inl (cI, 15, .inl (fun jj => nI (mA jj)))), (g4, .inl (cI, 15, .inl (fun jj => nI (mB jj)))), (g5, .inl (cJ, 15, .inr (.inl mL))), (g2, .inl (cJ, 256, .inr (.inl fa)))]) rfl ?_
      refine g_aload_n C dX7_bundle_40 41 rfl rfl ?_
      refine g_get C iw_X7_bundle_X7 0 rfl rfl 0 (by decide) (by decide +kernel) rfl rfl dX7_bundle_41 44 rfl ?_
      refine g_if_eq_n C dX7_bundle_44 49 47 (by decide) rfl (by omega) (fun c44 => ?_) (fun c44 => ?_)
      · exact absurd c44 (by omega)
      · refine g_iconst (v := nI 0) C dX7_bundle_47 48 rfl (by decide) ?_
        exact g_iret C hQ (Nat.le_of_ble_eq_true rfl) (Nat.le_of_ble_eq_true rfl) dX7_bundle_48 (1, mb, mA, mB, mL, fa) (Or.inl ⟨rfl, fun q => inB_f (by omega) c14 q.2, rfl, rfl, rfl, rfl, rfl⟩) (by first | (dsimp only; done) | rfl)
