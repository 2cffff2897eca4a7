theorem iw_X7_joined_X7 : ∀ w ∈ wsX70, w ∈ wsX7_joined := by decide +kernel
set_option maxHeartbeats 4000000 in
set_option maxRecDepth 100000 in
theorem c_X7_joined (l : Launch) (D : va_G) (cI cJ cB cZ : ClassId) (sz : Nat) (g0 : Nat) (g1 : Nat) (g2 : Nat) (g3 : Nat) (g4 : Nat) (g5 : Nat) (g6 : Nat) (g7 : Nat) (g8 : Nat) (g9 : Nat) (g10 : Nat) (g11 : Nat) (g12 : Nat) (g13 : Nat) (g14 : Nat) (g15 : Nat) (g16 : Nat) (g17 : Nat) (g18 : Nat) (g19 : Nat) (g20 : Nat) (g21 : Nat) (g22 : Nat) (th : Nat) (mn : Nat) (mb : Nat) (mw : Nat) (mz : Nat) (mv : Nat) (my : Nat) (msa : Int64) (msb : Int64) (wt : Int32) (wr : Int32) (fo : Int32) (mc : Nat → Nat) (wa : Nat → Int32) (pA : Nat → Nat) (pB : Nat → Nat) (gp : Nat → Nat) (a : Int32) (ca : Int32) (b : Int32) (cb : Int32) (hm : mn ≤ 16) (hmc : ∀ j, j < mn → mc j ≤ 16) (hmw : mw ≤ 24) (hz : mz ≤ 20) (hpA : ∀ k, k < mz → pA k < mw) (hpB : ∀ k, k < mz → pB k < mw) (hwa : ∀ e, e < 256 → wa e = -1 ∨ ∃ p, p < mw ∧ wa e = nI p) : Met l yX7_joined wsX7_joined ({ frames := 2, cells := 0, slots := 0, locals := 43 }) (va_Pc [.ref g0, .int a, .int ca, .int b, .int cb] (pW D (TY cI cJ cB cZ) [(g0, .inr (11, [.int (nI th), .int (nI mn), .ref g1, .ref g2, .int (nI mb), .ref g3, .ref g4, .ref g5, .int (nI mw), .ref g6, .ref g7, .ref g8, .ref g9, .ref g10, .long msa, .long msb, .ref g11, .ref g12, .ref g13, .ref g14, .ref g15, .int (nI mz), .ref g16, .ref g17, .ref g18, .int (nI mv), .ref g19, .int (nI my), .ref g20, .ref g21, .ref g22, .int wt, .int wr, .int fo])), (g1, .inl (cI, 16, .inl (fun jj => nI (mc jj)))), (g10, .inl (cI, 256, .inl wa)), (g16, .inl (cI, 20, .inl (fun jj => nI (pA jj)))), (g17, .inl (cI, 20, .inl (fun jj => nI (pB jj)))), (g18, .inl (cI, 24, .inl (fun jj => nI (gp jj))))] (fun _ => True) sz)) (va_Qi (fun (rv : Int32) (u : Nat × (Nat → Nat)) => (u.1 = 1 ∧ ¬ (inC mc mn a ca ∧ inC mc mn b cb) ∧ u.2 = gp) ∨ (u.1 = 0 ∧ (inC mc mn a ca ∧ inC mc mn b cb) ∧ rv = bI (Gjoined wa gp pA pB mw mz (cN a) (cN ca) (cN b) (cN cb)))) (qW D (TY cI cJ cB cZ) (va_A [(g0, .inr (11, [.int (nI th), .int (nI mn), .ref g1, .ref g2, .int (nI mb), .ref g3, .ref g4, .ref g5, .int (nI mw), .ref g6, .ref g7, .ref g8, .ref g9, .ref g10, .long msa, .long msb, .ref g11, .ref g12, .ref g13, .ref g14, .ref g15, .int (nI mz), .ref g16, .ref g17, .ref g18, .int (nI mv), .ref g19, .int (nI my), .ref g20, .ref g21, .ref g22, .int wt, .int wr, .int fo])), (g1, .inl (cI, 16, .inl (fun jj => nI (mc jj)))), (g10, .inl (cI, 256, .inl wa)), (g16, .inl (cI, 20, .inl (fun jj => nI (pA jj)))), (g17, .inl (cI, 20, .inl (fun jj => nI (pB jj)))), (g18, .inl (cI, 24, .inl (fun jj => nI (gp jj))))] sz) (fun u => [(g0, .inr (11, [.int (nI u.1), .int (nI mn), .ref g1, .ref g2, .int (nI mb), .ref g3, .ref g4, .ref g5, .int (nI mw), .ref g6, .ref g7, .ref g8, .ref g9, .ref g10, .long msa, .long msb, .ref g11, .ref g12, .ref g13, .ref g14, .ref g15, .int (nI mz), .ref g16, .ref g17, .ref g18, .int (nI mv), .ref g19, .int (nI my), .ref g20, .ref g21, .ref g22, .int wt, .int wr, .int fo])), (g1, .inl (cI, 16, .inl (fun jj => nI (mc jj)))), (g10, .inl (cI, 256, .inl wa)), (g16, .inl (cI, 20, .inl (fun jj => nI (pA jj)))), (g17, .inl (cI, 20, .inl (fun jj => nI (pB jj)))), (g18, .inl (cI, 24, .inl (fun jj => nI (u.2 jj))))])) (va_A [(g0, .inr (11, [.int (nI th), .int (nI mn), .ref g1, .ref g2, .int (nI mb), .ref g3, .ref g4, .ref g5, .int (nI mw), .ref g6, .ref g7, .ref g8, .ref g9, .ref g10, .long msa, .long msb, .ref g11, .ref g12, .ref g13, .ref g14, .ref g15, .int (nI mz), .ref g16, .ref g17, .ref g18, .int (nI mv), .ref g19, .int (nI my), .ref g20, .ref g21, .ref g22, .int wt, .int wr, .int fo])), (g1, .inl (cI, 16, .inl (fun jj => nI (mc jj)))), (g10, .inl (cI, 256, .inl wa)), (g16, .inl (cI, 20, .inl (fun jj => nI (pA jj)))), (g17, .inl (cI, 20, .inl (fun jj => nI (pB jj)))), (g18, .inl (cI, 24, .inl (fun jj => nI (gp jj))))] sz)) 0 0 (va_A [(g0, .inr (11, [.int (nI th), .int (nI mn), .ref g1, .ref g2, .int (nI mb), .ref g3, .ref g4, .ref g5, .int (nI mw), .ref g6, .ref g7, .ref g8, .ref g9, .ref g10, .long msa, .long msb, .ref g11, .ref g12, .ref g13, .ref g14, .ref g15, .int (nI mz), .ref g16, .ref g17, .ref g18, .int (nI mv), .ref g19, .int (nI my), .ref g20, .ref g21, .ref g22, .int wt, .int wr, .int fo])), (g1, .inl (cI, 16, .inl (fun jj => nI (mc jj)))), (g10, .inl (cI, 256, .inl wa)), (g16, .inl (cI, 20, .inl (fun jj => nI (pA jj)))), (g17, .inl (cI, 20, .inl (fun jj => nI (pB jj)))), (g18, .inl (cI, 24, .inl (fun jj => nI (gp jj))))] sz) := by
  refine gx_met RX7 rfl (by decide) rfl (Nat.le_of_ble_eq_true rfl) ?_
  intro X hl hDx hAx C hQ hXP hsz hin
  subst hl; subst hDx
  rw [← hAx] at hQ
  refine g_lv [0, 1, 2, 3, 4] (lv' := [(0, .ref g0), (1, .int a), (2, .int ca), (3, .int b), (4, .int cb)]) rfl ?_
  refine g_aload_n C dX7_joined_0 1 rfl rfl ?_
  refine g_aload_n C dX7_joined_1 2 rfl rfl ?_
  refine g_iload_n C dX7_joined_2 3 rfl rfl ?_
  refine g_iload_n C dX7_joined_3 4 rfl rfl ?_
  refine g_callVi (ci := 11) (q0 := 0) (As := [.int a, .int ca]) (rest := [.ref g0]) (wr := [(g10, .inl (cI, 256, .inl wa)), (g16, .inl (cI, 20, .inl (fun jj => nI (pA jj)))), (g17, .inl (cI, 20, .inl (fun jj => nI (pB jj)))), (g18, .inl (cI, 24, .inl (fun jj => nI (gp jj))))]) (ws' := fun (_ : Unit) => [(g0, .inr (11, [.int (nI th), .int (nI mn), .ref g1, .ref g2, .int (nI mb), .ref g3, .ref g4, .ref g5, .int (nI mw), .ref g6, .ref g7, .ref g8, .ref g9, .ref g10, .long msa, .long msb, .ref g11, .ref g12, .ref g13, .ref g14, .ref g15, .int (nI mz), .ref g16, .ref g17, .ref g18, .int (nI mv), .ref g19, .int (nI my), .ref g20, .ref g21, .ref g22, .int wt, .int wr, .int fo])), (g1, .inl (cI, 16, .inl (fun jj => nI (mc jj)))), (g10, .inl (cI, 256, .inl wa)), (g16, .inl (cI, 20, .inl (fun jj => nI (pA jj)))), (g17, .inl (cI, 20, .inl (fun jj => nI (pB jj)))), (g18, .inl (cI, 24, .inl (fun jj => nI (gp jj))))]) C (fun sz => c_X7_isCavity _ _ cI cJ cB cZ sz g0 g1 g2 g3 g4 g5 g6 g7 g8 g9 g10 g11 g12 g13 g14 g15 g16 g17 g18 g19 g20 g21 g22 th mn mb mw mz mv my msa msb wt wr fo mc a ca (by omega)) gx_XP0 2 gX7_joined_X7_isCavity rfl rfl rfl (by decide +kernel) ⟨Nat.le_of_ble_eq_true rfl, Nat.le_of_ble_eq_true rfl⟩ rfl rfl [0, 1] [2, 3, 4, 5] [4, 5, 0, 1, 2, 3] rfl (by decide) rfl (by decide) (by decide) (fun _ => rfl) (by decide) rfl rfl (Nat.le_of_ble_eq_true rfl) dX7_joined_4 ⟨Nat.le_of_ble_eq_true rfl, Nat.le_of_ble_eq_true rfl⟩ 7 rfl (eqk ?_)
  refine g_if_eq_b C dX7_joined_7 24 10 (by decide) rfl (fun c7 => ?_) (fun c7 => ?_)
  · refine g_iconst (v := nI 1) C dX7_joined_24 25 rfl (by decide) ?_
    refine g_put C (ty := .int) iw_X7_joined_X7 tyX7 tyX7_ok nmX7 0 rfl rfl 0 (by decide) (by decide +kernel) rfl rfl (by decide +kernel) rfl rfl (Nat.le_of_ble_eq_true rfl) dX7_joined_25 28 rfl (ws' := [(g0, .inr (11, [.int (nI 1), .int (nI mn), .ref g1, .ref g2, .int (nI mb), .ref g3, .ref g4, .ref g5, .int (nI mw), .ref g6, .ref g7, .ref g8, .ref g9, .ref g10, .long msa, .long msb, .ref g11, .ref g12, .ref g13, .ref g14, .ref g15, .int (nI mz), .ref g16, .ref g17, .ref g18, .int (nI mv), .ref g19, .int (nI my), .ref g20, .ref g21, .ref g22, .int wt, .int wr, .int fo])), (g1, .inl (cI, 16, .inl (fun jj => nI (mc jj)))), (g10, .inl (cI, 256, .inl wa)), (g16, .inl (cI, 20, .inl (fun jj => nI (pA jj)))), (g17, .inl (cI, 20, .inl (fun jj => nI (pB jj)))), (g18, .inl (cI, 24, .inl (fun jj => nI (gp jj))))]) rfl ?_
    refine g_aload_n C dX7_joined_28 29 rfl rfl ?_
    refine g_get C iw_X7_joined_X7 0 rfl rfl 0 (by decide) (by decide +kernel) rfl rfl dX7_joined_29 32 rfl ?_
    refine g_if_eq_n C dX7_joined_32 37 35 (by decide) rfl (by omega) (fun c32 => ?_) (fun c32 => ?_)
    · exact absurd c32 (by omega)
    · refine g_iconst (v := nI 0) C dX7_joined_35 36 rfl (by decide) ?_
      exact g_zret C hQ (Nat.le_of_ble_eq_true rfl) (Nat.le_of_ble_eq_true rfl) dX7_joined_36 rfl (1, gp) (Or.inl ⟨rfl, fun q => icB_f hm hmc c7 q.1, rfl⟩) (by first | (dsimp only; done) | rfl)
  · refine g_aload_n C dX7_joined_10 11 rfl rfl ?_
    refine g_iload_n C dX7_joined_11 12 rfl rfl ?_
    refine g_iload C dX7_joined_12 14 rfl rfl ?_
    refine g_callVi (ci := 11) (q0 := 0) (As := [.int b, .int cb]) (rest := [.ref g0]) (wr := [(g10, .inl (cI, 256, .inl wa)), (g16, .inl (cI, 20, .inl (fun jj => nI (pA jj)))), (g17, .inl (cI, 20, .inl (fun jj => nI (pB jj)))), (g18, .inl (cI, 24, .inl (fun jj => nI (gp jj))))]) (ws' := fun (_ : Unit) => [(g0, .inr (11, [.int (nI th), .int (nI mn), .ref g1, .ref g2, .int (nI mb), .ref g3, .ref g4, .ref g5, .int (nI mw), .ref g6, .ref g7, .ref g8, .ref g9, .ref g10, .long msa, .long msb, .ref g11, .ref g12, .ref g13, .ref g14, .ref g15, .int (nI mz), .ref g16, .ref g17, .ref g18, .int (nI mv), .ref g19, .int (nI my), .ref g20, .ref g21, .ref g22, .int wt, .int wr, .int fo])), (g1, .inl (cI, 16, .inl (fun jj => nI (mc jj)))), (g10, .inl (cI, 256, .inl wa)), (g16, .inl (cI, 20, .inl (fun jj => nI (pA jj)))), (g17, .inl (cI, 20, .inl (fun jj => nI (pB jj)))), (g18, .inl (cI, 24, .inl (fun jj => nI (gp jj))))]) C (fun sz => c_X7_isCavity _ _ cI cJ cB cZ sz g0 g1 g2 g3 g4 g5 g6 g7 g8 g9 g10 g11 g12 g13 g14 g15 g16 g17 g18 g19 g20 g21 g22 th mn mb mw mz mv my msa msb wt wr fo mc b cb (by omega)) gx_XP0 2 gX7_joined_X7_isCavity rfl rfl rfl (by decide +kernel) ⟨Nat.le_of_ble_eq_true rfl, Nat.le_of_ble_eq_true rfl⟩ rfl rfl [0, 1] [2, 3, 4, 5] [4, 5, 0, 1, 2, 3] rfl (by decide) rfl (by decide) (by decide) (fun _ => rfl) (by decide) rfl rfl (Nat.le_of_ble_eq_true rfl) dX7_joined_14 ⟨Nat.le_of_ble_eq_true rfl, Nat.le_of_ble_eq_true rfl⟩ 17 rfl (eqk ?_)
    refine g_if_eq_b C dX7_joined_17 24 20 (by decide) rfl (fun c17 => ?_) (fun c17 => ?_)
    · refine g_iconst (v := nI 1) C dX7_joined_24 25 rfl (by decide) ?_
      refine g_put C (ty := .int) iw_X7_joined_X7 tyX7 tyX7_ok nmX7 0 rfl rfl 0 (by decide) (by decide +kernel) rfl rfl (by decide +kernel) rfl rfl (Nat.le_of_ble_eq_true rfl) dX7_joined_25 28 rfl (ws' := [(g0, .inr (11, [.int (nI 1), .int (nI mn), .ref g1, .ref g2, .int (nI mb), .ref g3, .ref g4, .ref g5, .int (nI mw), .ref g6, .ref g7, .ref g8, .ref g9, .ref g10, .long msa, .long msb, .ref g11, .ref g12, .ref g13, .ref g14, .ref g15, .int (nI mz), .ref g16, .ref g17, .ref g18, .int (nI mv), .ref g19, .int (nI my), .ref g20, .ref g21, .ref g22, .int wt, .int wr, .int fo])), (g1, .inl (cI, 16, .inl (fun jj => nI (mc jj)))), (g10, .inl (cI, 256, .inl wa)), (g16, .inl (cI, 20, .inl (fun jj => nI (pA jj)))), (g17, .inl (cI, 20, .inl (fun jj => nI (pB jj)))), (g18, .inl (cI, 24, .inl (fun jj => nI (gp jj))))]) rfl ?_
      refine g_aload_n C dX7_joined_28 29 rfl rfl ?_
      refine g_get C iw_X7_joined_X7 0 rfl rfl 0 (by decide) (by decide +kernel) rfl rfl dX7_joined_29 32 rfl ?_
      refine g_if_eq_n C dX7_joined_32 37 35 (by decide) rfl (by omega) (fun c32 => ?_) (fun c32 => ?_)
      · exact absurd c32 (by omega)
      · refine g_iconst (v := nI 0) C dX7_joined_35 36 rfl (by decide) ?_
        exact g_zret C hQ (Nat.le_of_ble_eq_true rfl) (Nat.le_of_ble_eq_true rfl) dX7_joined_36 rfl (1, gp) (Or.inl ⟨rfl, fun q => icB_f hm hmc c17 q.2, rfl⟩) (by first | (dsimp only; done) | rfl)
    · refine g_iconst (v := nI 0) C dX7_joined_20 21 rfl (by decide) ?_
      refine g_goto C dX7_joined_21 25 (by decide) ?_
      refine g_put C (ty := .int) iw_X7_joined_X7 tyX7 tyX7_ok nmX7 0 rfl rfl 0 (by decide) (by decide +kernel) rfl rfl (by decide +kernel) rfl rfl (Nat.le_of_ble_eq_true rfl) dX7_joined_25 28 rfl (ws' := [(g0, .inr (11, [.int (nI 0), .int (nI mn), .ref g1, .ref g2, .int (nI mb), .ref g3, .ref g4, .ref g5, .int (nI mw), .ref g6, .ref g7, .ref g8, .ref g9, .ref g10, .long msa, .long msb, .ref g11, .ref g12, .ref g13, .ref g14, .ref g15, .int (nI mz), .ref g16, .ref g17, .ref g18, .int (nI mv), .ref g19, .int (nI my), .ref g20, .ref g21, .ref g22, .int wt, .int wr, .int fo])), (g1, .inl (cI, 16, .inl (fun jj => nI (mc jj)))), (g10, .inl (cI, 256, .inl wa)), (g16, .inl (cI, 20, .inl (fun jj => nI (pA jj)))), (g17, .inl (cI, 20, .inl (fun jj => nI (pB jj)))), (g18, .inl (cI, 24, .inl (fun jj => nI (gp jj))))]) rfl ?_
      refine g_aload_n C dX7_joined_28 29 rfl rfl ?_
      refine g_get C iw_X7_joined_X7 0 rfl rfl 0 (by decide) (by decide +kernel) rfl rfl dX7_joined_29 32 rfl ?_
      refine g_if_eq_n C dX7_joined_32 37 35 (by decide) rfl (by omega) (fun c32 => ?_) (fun c32 => ?_)
      · have hca := icB_t hm hmc c7
        have hcb := icB_t hm hmc c17
        obtain ⟨i, hi, rfl, k, hk, rfl⟩ := icB_t hm hmc c7
        have hci := hmc i hi
        obtain ⟨j, hj, rfl, m, hm, rfl⟩ := icB_t hm hmc c17
        have hcj := hmc j hj
        refine g_aload_n C dX7_joined_37 38 rfl rfl ?_
        refine g_get C iw_X7_joined_X7 0 rfl rfl 13 (by decide) (by decide +kernel) rfl rfl dX7_joined_38 41 rfl ?_
        refine g_bipush (v := nI 16) C dX7_joined_41 43 rfl (by decide) ?_
        refine g_iload_n C dX7_joined_43 44 rfl rfl ?_
        refine g_imuln C dX7_joined_44 45 rfl ?_
        refine g_iload_n C dX7_joined_45 46 rfl rfl ?_
        refine g_iaddn C dX7_joined_46 47 rfl ?_
        refine g_iald C 2 0 rfl rfl ((16 * i) + k) rfl (by omega) (by decide) dX7_joined_47 48 rfl ?_
        refine g_istore C dX7_joined_48 50 rfl (by decide) [1, 2, 3, 4, 5, 0] (lv' := [(0, .ref g0), (1, .int (nI i)), (2, .int (nI k)), (3, .int (nI j)), (4, .int (nI m)), (5, .int (wa ((16 * i) + k)))]) rfl ?_
        refine g_aload_n C dX7_joined_50 51 rfl rfl ?_
        refine g_get C iw_X7_joined_X7 0 rfl rfl 13 (by decide) (by decide +kernel) rfl rfl dX7_joined_51 54 rfl ?_
        refine g_bipush (v := nI 16) C dX7_joined_54 56 rfl (by decide) ?_
        refine g_iload_n C dX7_joined_56 57 rfl rfl ?_
        refine g_imuln C dX7_joined_57 58 rfl ?_
        refine g_iload C dX7_joined_58 60 rfl rfl ?_
        refine g_iaddn C dX7_joined_60 61 rfl ?_
        refine g_iald C 2 0 rfl rfl ((16 * j) + m) rfl (by omega) (by decide) dX7_joined_61 62 rfl ?_
        refine g_istore C dX7_joined_62 64 rfl (by decide) [1, 2, 3, 4, 5, 6, 0] (lv' := [(0, .ref g0), (1, .int (nI i)), (2, .int (nI k)), (3, .int (nI j)), (4, .int (nI m)), (5, .int (wa ((16 * i) + k))), (6, .int (wa ((16 * j) + m)))]) rfl ?_
        rcases hwa (16 * i + k) (by omega) with hx9 | ⟨p, hp, hx9⟩
        · rw [hx9]
          refine g_iload C dX7_joined_64 66 rfl rfl ?_
          refine g_iconst (v := -1) C dX7_joined_66 67 rfl (by decide) ?_
          refine g_icmp_eq C dX7_joined_67 76 70 (by decide) rfl (fun c67 => ?_) (fun c67 => ?_)
          · refine g_iload_n C dX7_joined_76 77 rfl rfl ?_
            refine g_iload_n C dX7_joined_77 78 rfl rfl ?_
            refine g_icmp_ne_n C dX7_joined_78 91 81 (by decide) rfl (by omega) (by omega) (fun c78 => ?_) (fun c78 => ?_)
            · refine g_iconst (v := nI 0) C dX7_joined_91 92 rfl (by decide) ?_
              exact g_zret C hQ (Nat.le_of_ble_eq_true rfl) (Nat.le_of_ble_eq_true rfl) dX7_joined_92 rfl (0, gp) (Or.inr ⟨rfl, ⟨hca, hcb⟩, by rw [cN_nI (by omega), cN_nI (by omega), cN_nI (by omega), cN_nI (by omega), Gjoined, if_pos (Or.inl hx9)]; simp [bI, nI_one, nI_0, c78]⟩) (by first | (dsimp only; done) | rfl)
            · refine g_iload_n C dX7_joined_81 82 rfl rfl ?_
              refine g_iload C dX7_joined_82 84 rfl rfl ?_
              refine g_icmp_ne_n C dX7_joined_84 91 87 (by decide) rfl (by omega) (by omega) (fun c84 => ?_) (fun c84 => ?_)
              · refine g_iconst (v := nI 0) C dX7_joined_91 92 rfl (by decide) ?_
                exact g_zret C hQ (Nat.le_of_ble_eq_true rfl) (Nat.le_of_ble_eq_true rfl) dX7_joined_92 rfl (0, gp) (Or.inr ⟨rfl, ⟨hca, hcb⟩, by rw [cN_nI (by omega), cN_nI (by omega), cN_nI (by omega), cN_nI (by omega), Gjoined, if_pos (Or.inl hx9)]; simp [bI, nI_one, nI_0, c78, c84]⟩) (by first | (dsimp only; done) | rfl)
              · refine g_iconst (v := nI 1) C dX7_joined_87 88 rfl (by decide) ?_
                refine g_goto C dX7_joined_88 92 (by decide) ?_
                exact g_zret C hQ (Nat.le_of_ble_eq_true rfl) (Nat.le_of_ble_eq_true rfl) dX7_joined_92 rfl (0, gp) (Or.inr ⟨rfl, ⟨hca, hcb⟩, by rw [cN_nI (by omega), cN_nI (by omega), cN_nI (by omega), cN_nI (by omega), Gjoined, if_pos (Or.inl hx9)]; simp [bI, nI_one, nI_0, c78, c84]⟩) (by first | (dsimp only; done) | rfl)
          · exact absurd rfl c67
        · rcases hwa (16 * j + m) (by omega) with hy9 | ⟨q, hq, hy9⟩
          · rw [hx9, hy9]
            refine g_iload C dX7_joined_64 66 rfl rfl ?_
            refine g_iconst (v := -1) C dX7_joined_66 67 rfl (by decide) ?_
            refine g_icmp_eq C dX7_joined_67 76 70 (by decide) rfl (fun c67 => ?_) (fun c67 => ?_)
            · exact absurd c67 (nI_m1 (by omega))
            · refine g_iload C dX7_joined_70 72 rfl rfl ?_
              refine g_iconst (v := -1) C dX7_joined_72 73 rfl (by decide) ?_
              refine g_icmp_ne C dX7_joined_73 93 76 (by decide) rfl (fun c73 => ?_) (fun c73 => ?_)
              · exact absurd rfl c73
              · refine g_iload_n C dX7_joined_76 77 rfl rfl ?_
                refine g_iload_n C dX7_joined_77 78 rfl rfl ?_
                refine g_icmp_ne_n C dX7_joined_78 91 81 (by decide) rfl (by omega) (by omega) (fun c78 => ?_) (fun c78 => ?_)
                · refine g_iconst (v := nI 0) C dX7_joined_91 92 rfl (by decide) ?_
                  exact g_zret C hQ (Nat.le_of_ble_eq_true rfl) (Nat.le_of_ble_eq_true rfl) dX7_joined_92 rfl (0, gp) (Or.inr ⟨rfl, ⟨hca, hcb⟩, by rw [cN_nI (by omega), cN_nI (by omega), cN_nI (by omega), cN_nI (by omega), Gjoined, if_pos (Or.inr hy9)]; simp [bI, nI_one, nI_0, c78]⟩) (by first | (dsimp only; done) | rfl)
                · refine g_iload_n C dX7_joined_81 82 rfl rfl ?_
                  refine g_iload C dX7_joined_82 84 rfl rfl ?_
                  refine g_icmp_ne_n C dX7_joined_84 91 87 (by decide) rfl (by omega) (by omega) (fun c84 => ?_) (fun c84 => ?_)
                  · refine g_iconst (v := nI 0) C dX7_joined_91 92 rfl (by decide) ?_
                    exact g_zret C hQ (Nat.le_of_ble_eq_true rfl) (Nat.le_of_ble_eq_true rfl) dX7_joined_92 rfl (0, gp) (Or.inr ⟨rfl, ⟨hca, hcb⟩, by rw [cN_nI (by omega), cN_nI (by omega), cN_nI (by omega), cN_nI (by omega), Gjoined, if_pos (Or.inr hy9)]; simp [bI, nI_one, nI_0, c78, c84]⟩) (by first | (dsimp only; done) | rfl)
                  · refine g_iconst (v := nI 1) C dX7_joined_87 88 rfl (by decide) ?_
                    refine g_goto C dX7_joined_88 92 (by decide) ?_
                    exact g_zret C hQ (Nat.le_of_ble_eq_true rfl) (Nat.le_of_ble_eq_true rfl) dX7_joined_92 rfl (0, gp) (Or.inr ⟨rfl, ⟨hca, hcb⟩, by rw [cN_nI (by omega), cN_nI (by omega), cN_nI (by omega), cN_nI (by omega), Gjoined, if_pos (Or.inr hy9)]; simp [bI, nI_one, nI_0, c78, c84]⟩) (by first | (dsimp only; done) | rfl)
          · rw [hx9, hy9]
            refine g_iload C dX7_joined_64 66 rfl rfl ?_
            refine g_iconst (v := -1) C dX7_joined_66 67 rfl (by decide) ?_
            refine g_icmp_eq C dX7_joined_67 76 70 (by decide) rfl (fun c67 => ?_) (fun c67 => ?_)
            · exact absurd c67 (nI_m1 (by omega))
            · refine g_iload C dX7_joined_70 72 rfl rfl ?_
              refine g_iconst (v := -1) C dX7_joined_72 73 rfl (by decide) ?_
              refine g_icmp_ne C dX7_joined_73 93 76 (by decide) rfl (fun c73 => ?_) (fun c73 => ?_)
              · refine g_iconst (v := nI 0) C dX7_joined_93 94 rfl (by decide) ?_
                refine g_istore C dX7_joined_94 96 rfl (by decide) [1, 2, 3, 4, 5, 6, 7, 0] (lv' := [(0, .ref g0), (1, .int (nI i)), (2, .int (nI k)), (3, .int (nI j)), (4, .int (nI m)), (5, .int (nI p)), (6, .int (nI q)), (7, .int (nI 0))]) rfl ?_
                have hid : ∀ (fuel w : Nat), w ≤ mw → mw + 1 ≤ w + fuel → gx X 0 0 [(g0, .inr (11, [.int (nI 0), .int (nI mn), .ref g1, .ref g2, .int (nI mb), .ref g3, .ref g4, .ref g5, .int (nI mw), .ref g6, .ref g7, .ref g8, .ref g9, .ref g10, .long msa, .long msb, .ref g11, .ref g12, .ref g13, .ref g14, .ref g15, .int (nI mz), .ref g16, .ref g17, .ref g18, .int (nI mv), .ref g19, .int (nI my), .ref g20, .ref g21, .ref g22, .int wt, .int wr, .int fo])), (g1, .inl (cI, 16, .inl (fun jj => nI (mc jj)))), (g10, .inl (cI, 256, .inl wa)), (g16, .inl (cI, 20, .inl (fun jj => nI (pA jj)))), (g17, .inl (cI, 20, .inl (fun jj => nI (pB jj)))), (g18, .inl (cI, 24, .inl (fun jj => nI ((gidm gp w) jj))))] 96 [(0, .ref g0), (1, .int (nI i)), (2, .int (nI k)), (3, .int (nI j)), (4, .int (nI m)), (5, .int (nI p)), (6, .int (nI q)), (7, .int (nI w))] [] := by
                  intro fuel
                  induction fuel with
                  | zero => intro w h1 h2; exact absurd h2 (by omega)
                  | succ fuel hid_ih =>
                    intro w hle hfu
                    refine g_iload C dX7_joined_96 98 rfl rfl ?_
                    refine g_aload_n C dX7_joined_98 99 rfl rfl ?_
                    refine g_get C iw_X7_joined_X7 0 rfl rfl 8 (by decide) (by decide +kernel) rfl rfl dX7_joined_99 102 rfl ?_
                    refine g_icmp_ge_n C dX7_joined_102 120 105 (by decide) rfl (by omega) (by omega) (fun c102 => ?_) (fun c102 => ?_)
                    · have e_w : mw = w := by omega
                      subst e_w
                      refine g_iconst (v := nI 0) C dX7_joined_120 121 rfl (by decide) ?_
                      refine g_istore C dX7_joined_121 123 rfl (by decide) [1, 2, 3, 4, 5, 6, 7, 0] (lv' := [(0, .ref g0), (1, .int (nI i)), (2, .int (nI k)), (3, .int (nI j)), (4, .int (nI m)), (5, .int (nI p)), (6, .int (nI q)), (7, .int (nI 0))]) rfl ?_
                      have hsp9 : ∀ (fuel n : Nat), n ≤ mz → mz + 1 ≤ n + fuel → (∀ j, j < mw → gall gp pA pB mw n j < mw) → gx X 0 0 [(g0, .inr (11, [.int (nI 0), .int (nI mn), .ref g1, .ref g2, .int (nI mb), .ref g3, .ref g4, .ref g5, .int (nI mw), .ref g6, .ref g7, .ref g8, .ref g9, .ref g10, .long msa, .long msb, .ref g11, .ref g12, .ref g13, .ref g14, .ref g15, .int (nI mz), .ref g16, .ref g17, .ref g18, .int (nI mv), .ref g19, .int (nI my), .ref g20, .ref g21, .ref g22, .int wt, .int wr, .int fo])), (g1, .inl (cI, 16, .inl (fun jj => nI (mc jj)))), (g10, .inl (cI, 256, .inl wa)), (g16, .inl (cI, 20, .inl (fun jj => nI (pA jj)))), (g17, .inl (cI, 20, .inl (fun jj => nI (pB jj)))), (g18, .inl (cI, 24, .inl (fun jj => nI ((gall gp pA pB mw n) jj))))] 123 [(0, .ref g0), (1, .int (nI i)), (2, .int (nI k)), (3, .int (nI j)), (4, .int (nI m)), (5, .int (nI p)), (6, .int (nI q)), (7, .int (nI n))] [] := by
                        intro fuel
                        induction fuel with
                        | zero => intro n h1 h2; exact absurd h2 (by omega)
                        | succ fuel hsp9_ih =>
                          intro n hle hfu hgl
                          refine g_iload C dX7_joined_123 125 rfl rfl ?_
                          refine g_aload_n C dX7_joined_125 126 rfl rfl ?_
                          refine g_get C iw_X7_joined_X7 0 rfl rfl 21 (by decide) (by decide +kernel) rfl rfl dX7_joined_126 129 rfl ?_
                          refine g_icmp_ge_n C dX7_joined_129 215 132 (by decide) rfl (by omega) (by omega) (fun c129 => ?_) (fun c129 => ?_)
                          · have e_n : mz = n := by omega
                            subst e_n
                            have hg1 := hgl p hp
                            have hg2 := hgl q hq
                            refine g_aload_n C dX7_joined_215 216 rfl rfl ?_
                            refine g_get C iw_X7_joined_X7 0 rfl rfl 24 (by decide) (by decide +kernel) rfl rfl dX7_joined_216 219 rfl ?_
                            refine g_iload C dX7_joined_219 221 rfl rfl ?_
                            refine g_iald C 5 0 rfl rfl p rfl (by omega) (by decide) dX7_joined_221 222 rfl ?_
                            refine g_aload_n C dX7_joined_222 223 rfl rfl ?_
                            refine g_get C iw_X7_joined_X7 0 rfl rfl 24 (by decide) (by decide +kernel) rfl rfl dX7_joined_223 226 rfl ?_
                            refine g_iload C dX7_joined_226 228 rfl rfl ?_
                            refine g_iald C 5 0 rfl rfl q rfl (by omega) (by decide) dX7_joined_228 229 rfl ?_
                            refine g_icmp_ne_n C dX7_joined_229 236 232 (by decide) rfl (by omega) (by omega) (fun c229 => ?_) (fun c229 => ?_)
                            · refine g_iconst (v := nI 0) C dX7_joined_236 237 rfl (by decide) ?_
                              exact g_zret C hQ (Nat.le_of_ble_eq_true rfl) (Nat.le_of_ble_eq_true rfl) dX7_joined_237 rfl (0, gall gp pA pB mw mz) (Or.inr ⟨rfl, ⟨hca, hcb⟩, by rw [cN_nI (by omega), cN_nI (by omega), cN_nI (by omega), cN_nI (by omega), Gjoined, if_neg (by rw [hx9, hy9]; rintro (h | h); exact nI_m1 (by omega) h; exact nI_m1 (by omega) h), hx9, hy9, cN_nI (by omega), cN_nI (by omega)]; simp [bI, nI_one, nI_0, c229]⟩) (by first | (dsimp only; done) | rfl)
                            · refine g_iconst (v := nI 1) C dX7_joined_232 233 rfl (by decide) ?_
                              refine g_goto C dX7_joined_233 237 (by decide) ?_
                              exact g_zret C hQ (Nat.le_of_ble_eq_true rfl) (Nat.le_of_ble_eq_true rfl) dX7_joined_237 rfl (0, gall gp pA pB mw mz) (Or.inr ⟨rfl, ⟨hca, hcb⟩, by rw [cN_nI (by omega), cN_nI (by omega), cN_nI (by omega), cN_nI (by omega), Gjoined, if_neg (by rw [hx9, hy9]; rintro (h | h); exact nI_m1 (by omega) h; exact nI_m1 (by omega) h), hx9, hy9, cN_nI (by omega), cN_nI (by omega)]; simp [bI, nI_one, nI_0, c229]⟩) (by first | (dsimp only; done) | rfl)
                          · have hpa1 := hpA n (by omega)
                            have hpb1 := hpB n (by omega)
                            have hga := hgl (pA n) hpa1
                            have hgb := hgl (pB n) hpb1
                            refine g_aload_n C dX7_joined_132 133 rfl rfl ?_
                            refine g_get C iw_X7_joined_X7 0 rfl rfl 24 (by decide) (by decide +kernel) rfl rfl dX7_joined_133 136 rfl ?_
                            refine g_aload_n C dX7_joined_136 137 rfl rfl ?_
                            refine g_get C iw_X7_joined_X7 0 rfl rfl 22 (by decide) (by decide +kernel) rfl rfl dX7_joined_137 140 rfl ?_
                            refine g_iload C dX7_joined_140 142 rfl rfl ?_
                            refine g_iald C 3 0 rfl rfl n rfl (by omega) (by decide) dX7_joined_142 143 rfl ?_
                            refine g_iald C 5 0 rfl rfl (pA n) rfl (by omega) (by decide) dX7_joined_143 144 rfl ?_
                            refine g_istore C dX7_joined_144 146 rfl (by decide) [1, 2, 3, 4, 5, 6, 7, 8, 0] (lv' := [(0, .ref g0), (1, .int (nI i)), (2, .int (nI k)), (3, .int (nI j)), (4, .int (nI m)), (5, .int (nI p)), (6, .int (nI q)), (7, .int (nI n)), (8, .int (nI ((gall gp pA pB mw n) (pA n))))]) rfl ?_
                            refine g_aload_n C dX7_joined_146 147 rfl rfl ?_
                            refine g_get C iw_X7_joined_X7 0 rfl rfl 24 (by decide) (by decide +kernel) rfl rfl dX7_joined_147 150 rfl ?_
                            refine g_aload_n C dX7_joined_150 151 rfl rfl ?_
                            refine g_get C iw_X7_joined_X7 0 rfl rfl 23 (by decide) (by decide +kernel) rfl rfl dX7_joined_151 154 rfl ?_
                            refine g_iload C dX7_joined_154 156 rfl rfl ?_
                            refine g_iald C 4 0 rfl rfl n rfl (by omega) (by decide) dX7_joined_156 157 rfl ?_
                            refine g_iald C 5 0 rfl rfl (pB n) rfl (by omega) (by decide) dX7_joined_157 158 rfl ?_
                            refine g_istore C dX7_joined_158 160 rfl (by decide) [1, 2, 3, 4, 5, 6, 7, 8, 9, 0] (lv' := [(0, .ref g0), (1, .int (nI i)), (2, .int (nI k)), (3, .int (nI j)), (4, .int (nI m)), (5, .int (nI p)), (6, .int (nI q)), (7, .int (nI n)), (8, .int (nI ((gall gp pA pB mw n) (pA n)))), (9, .int (nI ((gall gp pA pB mw n) (pB n))))]) rfl ?_
                            refine g_iconst (v := nI 0) C dX7_joined_160 161 rfl (by decide) ?_
                            refine g_istore C dX7_joined_161 163 rfl (by decide) [1, 2, 3, 4, 5, 6, 7, 8, 9, 10, 0] (lv' := [(0, .ref g0), (1, .int (nI i)), (2, .int (nI k)), (3, .int (nI j)), (4, .int (nI m)), (5, .int (nI p)), (6, .int (nI q)), (7, .int (nI n)), (8, .int (nI ((gall gp pA pB mw n) (pA n)))), (9, .int (nI ((gall gp pA pB mw n) (pB n)))), (10, .int (nI 0))]) rfl ?_
                            have hin3 : ∀ (fuel w : Nat), w ≤ mw → mw + 1 ≤ w + fuel → gx X 0 0 [(g0, .inr (11, [.int (nI 0), .int (nI mn), .ref g1, .ref g2, .int (nI mb), .ref g3, .ref g4, .ref g5, .int (nI mw), .ref g6, .ref g7, .ref g8, .ref g9, .ref g10, .long msa, .long msb, .ref g11, .ref g12, .ref g13, .ref g14, .ref g15, .int (nI mz), .ref g16, .ref g17, .ref g18, .int (nI mv), .ref g19, .int (nI my), .ref g20, .ref g21, .ref g22, .int wt, .int wr, .int fo])), (g1, .inl (cI, 16, .inl (fun jj => nI (mc jj)))), (g10, .inl (cI, 256, .inl wa)), (g16, .inl (cI, 20, .inl (fun jj => nI (pA jj)))), (g17, .inl (cI, 20, .inl (fun jj => nI (pB jj)))), (g18, .inl (cI, 24, .inl (fun jj => nI ((mgm (gall gp pA pB mw n) (gall gp pA pB mw n (pA n)) (gall gp pA pB mw n (pB n)) w) jj))))] 163 [(0, .ref g0), (1, .int (nI i)), (2, .int (nI k)), (3, .int (nI j)), (4, .int (nI m)), (5, .int (nI p)), (6, .int (nI q)), (7, .int (nI n)), (8, .int (nI ((gall gp pA pB mw n) (pA n)))), (9, .int (nI ((gall gp pA pB mw n) (pB n)))), (10, .int (nI w))] [] := by
                              intro fuel
                              induction fuel with
                              | zero => intro w h1 h2; exact absurd h2 (by omega)
                              | succ fuel hin3_ih =>
                                intro w hle hfu
                                refine g_iload C dX7_joined_163 165 rfl rfl ?_
                                refine g_aload_n C dX7_joined_165 166 rfl rfl ?_
                                refine g_get C iw_X7_joined_X7 0 rfl rfl 8 (by decide) (by decide +kernel) rfl rfl dX7_joined_166 169 rfl ?_
                                refine g_icmp_ge_n C dX7_joined_169 209 172 (by decide) rfl (by omega) (by omega) (fun c169 => ?_) (fun c169 => ?_)
                                · have e_w : mw = w := by omega
                                  subst e_w
                                  refine g_iinc (v := nI (n + 1)) C dX7_joined_209 212 rfl rfl (nI_add n 1) (by decide) [1, 2, 3, 4, 5, 6, 7, 0, 8, 9, 10] (lv' := [(0, .ref g0), (1, .int (nI i)), (2, .int (nI k)), (3, .int (nI j)), (4, .int (nI m)), (5, .int (nI p)), (6, .int (nI q)), (7, .int (nI (n + 1))), (8, .int (nI ((gall gp pA pB mw n) (pA n)))), (9, .int (nI ((gall gp pA pB mw n) (pB n)))), (10, .int (nI mw))]) rfl ?_
                                  refine g_goto C dX7_joined_212 123 (by decide) ?_
                                  refine g_lv [0, 1, 2, 3, 4, 5, 6, 7] (lv' := [(0, .ref g0), (1, .int (nI i)), (2, .int (nI k)), (3, .int (nI j)), (4, .int (nI m)), (5, .int (nI p)), (6, .int (nI q)), (7, .int (nI (n + 1)))]) rfl ?_
                                  rw [show mgm (gall gp pA pB mw n) (gall gp pA pB mw n (pA n)) (gall gp pA pB mw n (pB n)) mw = gall gp pA pB mw (n + 1) from rfl]
                                  exact hsp9_ih (n + 1) (by omega) (by omega) (fun j hj => mgm_lt _ _ _ mw hgl (hgl (pB n) (hpB n (by omega))) mw j hj)
                                · have hgw := mgm_lt (gall gp pA pB mw n) (gall gp pA pB mw n (pA n)) (gall gp pA pB mw n (pB n)) mw hgl hgb w w (by omega)
                                  refine g_aload_n C dX7_joined_172 173 rfl rfl ?_
                                  refine g_get C iw_X7_joined_X7 0 rfl rfl 24 (by decide) (by decide +kernel) rfl rfl dX7_joined_173 176 rfl ?_
                                  refine g_iload C dX7_joined_176 178 rfl rfl ?_
                                  refine g_aload_n C dX7_joined_178 179 rfl rfl ?_
                                  refine g_get C iw_X7_joined_X7 0 rfl rfl 24 (by decide) (by decide +kernel) rfl rfl dX7_joined_179 182 rfl ?_
                                  refine g_iload C dX7_joined_182 184 rfl rfl ?_
                                  refine g_iald C 5 0 rfl rfl w rfl (by omega) (by decide) dX7_joined_184 185 rfl ?_
                                  refine g_iload C dX7_joined_185 187 rfl rfl ?_
                                  refine g_icmp_ne_n C dX7_joined_187 195 190 (by decide) rfl (by omega) (by omega) (fun c187 => ?_) (fun c187 => ?_)
                                  · refine g_aload_n C dX7_joined_195 196 rfl rfl ?_
                                    refine g_get C iw_X7_joined_X7 0 rfl rfl 24 (by decide) (by decide +kernel) rfl rfl dX7_joined_196 199 rfl ?_
                                    refine g_iload C dX7_joined_199 201 rfl rfl ?_
                                    refine g_iald C 5 0 rfl rfl w rfl (by omega) (by decide) dX7_joined_201 202 rfl ?_
                                    refine g_iast C 5 0 rfl rfl w rfl (by omega) (by decide) dX7_joined_202 203 rfl (ws' := [(g0, .inr (11, [.int (nI 0), .int (nI mn), .ref g1, .ref g2, .int (nI mb), .ref g3, .ref g4, .ref g5, .int (nI mw), .ref g6, .ref g7, .ref g8, .ref g9, .ref g10, .long msa, .long msb, .ref g11, .ref g12, .ref g13, .ref g14, .ref g15, .int (nI mz), .ref g16, .ref g17, .ref g18, .int (nI mv), .ref g19, .int (nI my), .ref g20, .ref g21, .ref g22, .int wt, .int wr, .int fo])), (g1, .inl (cI, 16, .inl (fun jj => nI (mc jj)))), (g10, .inl (cI, 256, .inl wa)), (g16, .inl (cI, 20, .inl (fun jj => nI (pA jj)))), (g17, .inl (cI, 20, .inl (fun jj => nI (pB jj)))), (g18, .inl (cI, 24, .inl (fun jj => nI ((updN (mgm (gall gp pA pB mw n) (gall gp pA pB mw n (pA n)) (gall gp pA pB mw n (pB n)) w) w ((mgm (gall gp pA pB mw n) (gall gp pA pB mw n (pA n)) (gall gp pA pB mw n (pB n)) w) w)) jj))))]) (by rw [upd_nI]; rfl) ?_
                                    refine g_iinc (v := nI (w + 1)) C dX7_joined_203 206 rfl rfl (nI_add w 1) (by decide) [1, 2, 3, 4, 5, 6, 7, 8, 9, 10, 0] (lv' := [(0, .ref g0), (1, .int (nI i)), (2, .int (nI k)), (3, .int (nI j)), (4, .int (nI m)), (5, .int (nI p)), (6, .int (nI q)), (7, .int (nI n)), (8, .int (nI ((gall gp pA pB mw n) (pA n)))), (9, .int (nI ((gall gp pA pB mw n) (pB n)))), (10, .int (nI (w + 1)))]) rfl ?_
                                    refine g_goto C dX7_joined_206 163 (by decide) ?_
                                    rw [show updN (mgm (gall gp pA pB mw n) (gall gp pA pB mw n (pA n)) (gall gp pA pB mw n (pB n)) w) w ((mgm (gall gp pA pB mw n) (gall gp pA pB mw n (pA n)) (gall gp pA pB mw n (pB n)) w) w) = mgm (gall gp pA pB mw n) (gall gp pA pB mw n (pA n)) (gall gp pA pB mw n (pB n)) (w + 1) from by rw [show mgm (gall gp pA pB mw n) (gall gp pA pB mw n (pA n)) (gall gp pA pB mw n (pB n)) (w + 1) = updN (mgm (gall gp pA pB mw n) (gall gp pA pB mw n (pA n)) (gall gp pA pB mw n (pB n)) w) w (if mgm (gall gp pA pB mw n) (gall gp pA pB mw n (pA n)) (gall gp pA pB mw n (pB n)) w w = gall gp pA pB mw n (pA n) then gall gp pA pB mw n (pB n) else mgm (gall gp pA pB mw n) (gall gp pA pB mw n (pA n)) (gall gp pA pB mw n (pB n)) w w) from rfl, if_neg c187]]
                                    exact hin3_ih (w + 1) (by omega) (by omega)
                                  · refine g_iload C dX7_joined_190 192 rfl rfl ?_
                                    refine g_goto C dX7_joined_192 202 (by decide) ?_
                                    refine g_iast C 5 0 rfl rfl w rfl (by omega) (by decide) dX7_joined_202 203 rfl (ws' := [(g0, .inr (11, [.int (nI 0), .int (nI mn), .ref g1, .ref g2, .int (nI mb), .ref g3, .ref g4, .ref g5, .int (nI mw), .ref g6, .ref g7, .ref g8, .ref g9, .ref g10, .long msa, .long msb, .ref g11, .ref g12, .ref g13, .ref g14, .ref g15, .int (nI mz), .ref g16, .ref g17, .ref g18, .int (nI mv), .ref g19, .int (nI my), .ref g20, .ref g21, .ref g22, .int wt, .int wr, .int fo])), (g1, .inl (cI, 16, .inl (fun jj => nI (mc jj)))), (g10, .inl (cI, 256, .inl wa)), (g16, .inl (cI, 20, .inl (fun jj => nI (pA jj)))), (g17, .inl (cI, 20, .inl (fun jj => nI (pB jj)))), (g18, .inl (cI, 24, .inl (fun jj => nI ((updN (mgm (gall gp pA pB mw n) (gall gp pA pB mw n (pA n)) (gall gp pA pB mw n (pB n)) w) w ((gall gp pA pB mw n) (pB n))) jj))))]) (by rw [upd_nI]; rfl) ?_
                                    refine g_iinc (v := nI (w + 1)) C dX7_joined_203 206 rfl rfl (nI_add w 1) (by decide) [1, 2, 3, 4, 5, 6, 7, 8, 9, 10, 0] (lv' := [(0, .ref g0), (1, .int (nI i)), (2, .int (nI k)), (3, .int (nI j)), (4, .int (nI m)), (5, .int (nI p)), (6, .int (nI q)), (7, .int (nI n)), (8, .int (nI ((gall gp pA pB mw n) (pA n)))), (9, .int (nI ((gall gp pA pB mw n) (pB n)))), (10, .int (nI (w + 1)))]) rfl ?_
                                    refine g_goto C dX7_joined_206 163 (by decide) ?_
                                    rw [show updN (mgm (gall gp pA pB mw n) (gall gp pA pB mw n (pA n)) (gall gp pA pB mw n (pB n)) w) w ((gall gp pA pB mw n) (pB n)) = mgm (gall gp pA pB mw n) (gall gp pA pB mw n (pA n)) (gall gp pA pB mw n (pB n)) (w + 1) from by rw [show mgm (gall gp pA pB mw n) (gall gp pA pB mw n (pA n)) (gall gp pA pB mw n (pB n)) (w + 1) = updN (mgm (gall gp pA pB mw n) (gall gp pA pB mw n (pA n)) (gall gp pA pB mw n (pB n)) w) w (if mgm (gall gp pA pB mw n) (gall gp pA pB mw n (pA n)) (gall gp pA pB mw n (pB n)) w w = gall gp pA pB mw n (pA n) then gall gp pA pB mw n (pB n) else mgm (gall gp pA pB mw n) (gall gp pA pB mw n (pA n)) (gall gp pA pB mw n (pB n)) w w) from rfl, if_pos c187]]
                                    exact hin3_ih (w + 1) (by omega) (by omega)
                            refine g_ws (ws' := [(g0, .inr (11, [.int (nI 0), .int (nI mn), .ref g1, .ref g2, .int (nI mb), .ref g3, .ref g4, .ref g5, .int (nI mw), .ref g6, .ref g7, .ref g8, .ref g9, .ref g10, .long msa, .long msb, .ref g11, .ref g12, .ref g13, .ref g14, .ref g15, .int (nI mz), .ref g16, .ref g17, .ref g18, .int (nI mv), .ref g19, .int (nI my), .ref g20, .ref g21, .ref g22, .int wt, .int wr, .int fo])), (g1, .inl (cI, 16, .inl (fun jj => nI (mc jj)))), (g10, .inl (cI, 256, .inl wa)), (g16, .inl (cI, 20, .inl (fun jj => nI (pA jj)))), (g17, .inl (cI, 20, .inl (fun jj => nI (pB jj)))), (g18, .inl (cI, 24, .inl (fun jj => nI ((mgm (gall gp pA pB mw n) (gall gp pA pB mw n (pA n)) (gall gp pA pB mw n (pB n)) 0) jj))))]) rfl ?_
                            exact hin3 (mw + 1) 0 (by omega) (by omega)
                      rw [show gidm gp mw = gall gp pA pB mw 0 from rfl]
                      exact hsp9 (mz + 1) 0 (by omega) (by omega) (fun j hj => by show gidm gp mw j < mw; rw [gidm_at gp mw j hj]; exact hj)
                    · refine g_aload_n C dX7_joined_105 106 rfl rfl ?_
                      refine g_get C iw_X7_joined_X7 0 rfl rfl 24 (by decide) (by decide +kernel) rfl rfl dX7_joined_106 109 rfl ?_
                      refine g_iload C dX7_joined_109 111 rfl rfl ?_
                      refine g_iload C dX7_joined_111 113 rfl rfl ?_
                      refine g_iast C 5 0 rfl rfl w rfl (by omega) (by decide) dX7_joined_113 114 rfl (ws' := [(g0, .inr (11, [.int (nI 0), .int (nI mn), .ref g1, .ref g2, .int (nI mb), .ref g3, .ref g4, .ref g5, .int (nI mw), .ref g6, .ref g7, .ref g8, .ref g9, .ref g10, .long msa, .long msb, .ref g11, .ref g12, .ref g13, .ref g14, .ref g15, .int (nI mz), .ref g16, .ref g17, .ref g18, .int (nI mv), .ref g19, .int (nI my), .ref g20, .ref g21, .ref g22, .int wt, .int wr, .int fo])), (g1, .inl (cI, 16, .inl (fun jj => nI (mc jj)))), (g10, .inl (cI, 256, .inl wa)), (g16, .inl (cI, 20, .inl (fun jj => nI (pA jj)))), (g17, .inl (cI, 20, .inl (fun jj => nI (pB jj)))), (g18, .inl (cI, 24, .inl (fun jj => nI ((updN (gidm gp w) w w) jj))))]) (by rw [upd_nI]; rfl) ?_
                      refine g_iinc (v := nI (w + 1)) C dX7_joined_114 117 rfl rfl (nI_add w 1) (by decide) [1, 2, 3, 4, 5, 6, 7, 0] (lv' := [(0, .ref g0), (1, .int (nI i)), (2, .int (nI k)), (3, .int (nI j)), (4, .int (nI m)), (5, .int (nI p)), (6, .int (nI q)), (7, .int (nI (w + 1)))]) rfl ?_
                      refine g_goto C dX7_joined_117 96 (by decide) ?_
                      rw [show updN (gidm gp w) w w = gidm gp (w + 1) from rfl]
                      exact hid_ih (w + 1) (by omega) (by omega)
                exact hid (mw + 1) 0 (by omega) (by omega)
              · exact absurd c73 (nI_m1 (by omega))
      · exact absurd c32 (by omega)
