theorem iw_X7_wire_X7 : ∀ w ∈ wsX70, w ∈ wsX7_wire := by decide +kernel
set_option maxHeartbeats 4000000 in
set_option maxRecDepth 100000 in
theorem c_X7_wire (l : Launch) (D : va_G) (cI cJ cB cZ : ClassId) (sz : Nat) (g0 : Nat) (g1 : Nat) (g2 : Nat) (g3 : Nat) (g4 : Nat) (g5 : Nat) (g6 : Nat) (g7 : Nat) (g8 : Nat) (g9 : Nat) (g10 : Nat) (g11 : Nat) (g12 : Nat) (g13 : Nat) (g14 : Nat) (g15 : Nat) (g16 : Nat) (g17 : Nat) (g18 : Nat) (g19 : Nat) (g20 : Nat) (g21 : Nat) (g22 : Nat) (th : Nat) (mn : Nat) (mb : Nat) (mw : Nat) (mz : Nat) (mv : Nat) (my : Nat) (msa : Int64) (msb : Int64) (wt : Int32) (wr : Int32) (fo : Int32) (mc : Nat → Nat) (qA : Nat → Nat) (qB : Nat → Nat) (mdr : Nat → Int64) (wa : Nat → Int32) (a : Int32) (ca : Int32) (b : Int32) (cb : Int32) (hm : mn ≤ 16) (hmc : ∀ j, j < mn → mc j ≤ 16) (hmw : mw ≤ 24) : Met l yX7_wire wsX7_wire ({ frames := 2, cells := 0, slots := 0, locals := 43 }) (va_Pc [.ref g0, .int a, .int ca, .int b, .int cb] (pW D (TY cI cJ cB cZ) [(g0, .inr (11, [.int (nI th), .int (nI mn), .ref g1, .ref g2, .int (nI mb), .ref g3, .ref g4, .ref g5, .int (nI mw), .ref g6, .ref g7, .ref g8, .ref g9, .ref g10, .long msa, .long msb, .ref g11, .ref g12, .ref g13, .ref g14, .ref g15, .int (nI mz), .ref g16, .ref g17, .ref g18, .int (nI mv), .ref g19, .int (nI my), .ref g20, .ref g21, .ref g22, .int wt, .int wr, .int fo])), (g1, .inl (cI, 16, .inl (fun jj => nI (mc jj)))), (g6, .inl (cI, 24, .inl (fun jj => nI (qA jj)))), (g7, .inl (cI, 24, .inl (fun jj => nI (qB jj)))), (g9, .inl (cJ, 24, .inr (.inl mdr))), (g10, .inl (cI, 256, .inl wa))] (fun _ => True) sz)) (va_Qi (fun (rv : Int32) (u : Nat × Nat × (Nat → Nat) × (Nat → Nat) × (Nat → Int64) × (Nat → Int32)) => (u.1 = 1 ∧ ¬ (inC mc mn a ca ∧ inC mc mn b cb) ∧ u.2.2.1 = qA ∧ u.2.2.2.1 = qB ∧ u.2.2.2.2.1 = mdr ∧ u.2.2.2.2.2 = wa ∧ u.2.1 = mw) ∨ (u.1 = 0 ∧ (inC mc mn a ca ∧ inC mc mn b cb) ∧ (rv, u.2.2.1, u.2.2.2.1, u.2.2.2.2.1, u.2.2.2.2.2, u.2.1) = Gwire qA qB mdr wa mw (16 * cN a + cN ca) (16 * cN b + cN cb))) (qW D (TY cI cJ cB cZ) (va_A [(g0, .inr (11, [.int (nI th), .int (nI mn), .ref g1, .ref g2, .int (nI mb), .ref g3, .ref g4, .ref g5, .int (nI mw), .ref g6, .ref g7, .ref g8, .ref g9, .ref g10, .long msa, .long msb, .ref g11, .ref g12, .ref g13, .ref g14, .ref g15, .int (nI mz), .ref g16, .ref g17, .ref g18, .int (nI mv), .ref g19, .int (nI my), .ref g20, .ref g21, .ref g22, .int wt, .int wr, .int fo])), (g1, .inl (cI, 16, .inl (fun jj => nI (mc jj)))), (g6, .inl (cI, 24, .inl (fun jj => nI (qA jj)))), (g7, .inl (cI, 24, .inl (fun jj => nI (qB jj)))), (g9, .inl (cJ, 24, .inr (.inl mdr))), (g10, .inl (cI, 256, .inl wa))] sz) (fun u => [(g0, .inr (11, [.int (nI u.1), .int (nI mn), .ref g1, .ref g2, .int (nI mb), .ref g3, .ref g4, .ref g5, .int (nI u.2.1), .ref g6, .ref g7, .ref g8, .ref g9, .ref g10, .long msa, .long msb, .ref g11, .ref g12, .ref g13, .ref g14, .ref g15, .int (nI mz), .ref g16, .ref g17, .ref g18, .int (nI mv), .ref g19, .int (nI my), .ref g20, .ref g21, .ref g22, .int wt, .int wr, .int fo])), (g1, .inl (cI, 16, .inl (fun jj => nI (mc jj)))), (g6, .inl (cI, 24, .inl (fun jj => nI (u.2.2.1 jj)))), (g7, .inl (cI, 24, .inl (fun jj => nI (u.2.2.2.1 jj)))), (g9, .inl (cJ, 24, .inr (.inl u.2.2.2.2.1))), (g10, .inl (cI, 256, .inl u.2.2.2.2.2))])) (va_A [(g0, .inr (11, [.int (nI th), .int (nI mn), .ref g1, .ref g2, .int (nI mb), .ref g3, .ref g4, .ref g5, .int (nI mw), .ref g6, .ref g7, .ref g8, .ref g9, .ref g10, .long msa, .long msb, .ref g11, .ref g12, .ref g13, .ref g14, .ref g15, .int (nI mz), .ref g16, .ref g17, .ref g18, .int (nI mv), .ref g19, .int (nI my), .ref g20, .ref g21, .ref g22, .int wt, .int wr, .int fo])), (g1, .inl (cI, 16, .inl (fun jj => nI (mc jj)))), (g6, .inl (cI, 24, .inl (fun jj => nI (qA jj)))), (g7, .inl (cI, 24, .inl (fun jj => nI (qB jj)))), (g9, .inl (cJ, 24, .inr (.inl mdr))), (g10, .inl (cI, 256, .inl wa))] sz)) 0 0 (va_A [(g0, .inr (11, [.int (nI th), .int (nI mn), .ref g1, .ref g2, .int (nI mb), .ref g3, .ref g4, .ref g5, .int (nI mw), .ref g6, .ref g7, .ref g8, .ref g9, .ref g10, .long msa, .long msb, .ref g11, .ref g12, .ref g13, .ref g14, .ref g15, .int (nI mz), .ref g16, .ref g17, .ref g18, .int (nI mv), .ref g19, .int (nI my), .ref g20, .ref g21, .ref g22, .int wt, .int wr, .int fo])), (g1, .inl (cI, 16, .inl (fun jj => nI (mc jj)))), (g6, .inl (cI, 24, .inl (fun jj => nI (qA jj)))), (g7, .inl (cI, 24, .inl (fun jj => nI (qB jj)))), (g9, .inl (cJ, 24, .inr (.inl mdr))), (g10, .inl (cI, 256, .inl wa))] sz) := by
  refine gx_met RX7 rfl (by decide) rfl (Nat.le_of_ble_eq_true rfl) ?_
  intro X hl hDx hAx C hQ hXP hsz hin
  subst hl; subst hDx
  rw [← hAx] at hQ
  refine g_lv [0, 1, 2, 3, 4] (lv' := [(0, .ref g0), (1, .int a), (2, .int ca), (3, .int b), (4, .int cb)]) rfl ?_
  refine g_aload_n C dX7_wire_0 1 rfl rfl ?_
  refine g_aload_n C dX7_wire_1 2 rfl rfl ?_
  refine g_iload_n C dX7_wire_2 3 rfl rfl ?_
  refine g_iload_n C dX7_wire_3 4 rfl rfl ?_
  refine g_callVi (ci := 11) (q0 := 0) (As := [.int a, .int ca]) (rest := [.ref g0]) (wr := [(g6, .inl (cI, 24, .inl (fun jj => nI (qA jj)))), (g7, .inl (cI, 24, .inl (fun jj => nI (qB jj)))), (g9, .inl (cJ, 24, .inr (.inl mdr))), (g10, .inl (cI, 256, .inl wa))]) (ws' := fun (_ : Unit) => [(g0, .inr (11, [.int (nI th), .int (nI mn), .ref g1, .ref g2, .int (nI mb), .ref g3, .ref g4, .ref g5, .int (nI mw), .ref g6, .ref g7, .ref g8, .ref g9, .ref g10, .long msa, .long msb, .ref g11, .ref g12, .ref g13, .ref g14, .ref g15, .int (nI mz), .ref g16, .ref g17, .ref g18, .int (nI mv), .ref g19, .int (nI my), .ref g20, .ref g21, .ref g22, .int wt, .int wr, .int fo])), (g1, .inl (cI, 16, .inl (fun jj => nI (mc jj)))), (g6, .inl (cI, 24, .inl (fun jj => nI (qA jj)))), (g7, .inl (cI, 24, .inl (fun jj => nI (qB jj)))), (g9, .inl (cJ, 24, .inr (.inl mdr))), (g10, .inl (cI, 256, .inl wa))]) C (fun sz => c_X7_isCavity _ _ cI cJ cB cZ sz g0 g1 g2 g3 g4 g5 g6 g7 g8 g9 g10 g11 g12 g13 g14 g15 g16 g17 g18 g19 g20 g21 g22 th mn mb mw mz mv my msa msb wt wr fo mc a ca (by omega)) gx_XP0 2 gX7_wire_X7_isCavity rfl rfl rfl (by decide +kernel) ⟨Nat.le_of_ble_eq_true rfl, Nat.le_of_ble_eq_true rfl⟩ rfl rfl [0, 1] [2, 3, 4, 5] [4, 5, 0, 1, 2, 3] rfl (by decide) rfl (by decide) (by decide) (fun _ => rfl) (by decide) rfl rfl (Nat.le_of_ble_eq_true rfl) dX7_wire_4 ⟨Nat.le_of_ble_eq_true rfl, Nat.le_of_ble_eq_true rfl⟩ 7 rfl (eqk ?_)
  refine g_if_eq_b C dX7_wire_7 24 10 (by decide) rfl (fun c7 => ?_) (fun c7 => ?_)
  · refine g_iconst (v := nI 1) C dX7_wire_24 25 rfl (by decide) ?_
    refine g_put C (ty := .int) iw_X7_wire_X7 tyX7 tyX7_ok nmX7 0 rfl rfl 0 (by decide) (by decide +kernel) rfl rfl (by decide +kernel) rfl rfl (Nat.le_of_ble_eq_true rfl) dX7_wire_25 28 rfl (ws' := [(g0, .inr (11, [.int (nI 1), .int (nI mn), .ref g1, .ref g2, .int (nI mb), .ref g3, .ref g4, .ref g5, .int (nI mw), .ref g6, .ref g7, .ref g8, .ref g9, .ref g10, .long msa, .long msb, .ref g11, .ref g12, .ref g13, .ref g14, .ref g15, .int (nI mz), .ref g16, .ref g17, .ref g18, .int (nI mv), .ref g19, .int (nI my), .ref g20, .ref g21, .ref g22, .int wt, .int wr, .int fo])), (g1, .inl (cI, 16, .inl (fun jj => nI (mc jj)))), (g6, .inl (cI, 24, .inl (fun jj => nI (qA jj)))), (g7, .inl (cI, 24, .inl (fun jj => nI (qB jj)))), (g9, .inl (cJ, 24, .inr (.inl mdr))), (g10, .inl (cI, 256, .inl wa))]) rfl ?_
    refine g_aload_n C dX7_wire_28 29 rfl rfl ?_
    refine g_get C iw_X7_wire_X7 0 rfl rfl 0 (by decide) (by decide +kernel) rfl rfl dX7_wire_29 32 rfl ?_
    refine g_if_eq_n C dX7_wire_32 37 35 (by decide) rfl (by omega) (fun c32 => ?_) (fun c32 => ?_)
    · exact absurd c32 (by omega)
    · refine g_iconst (v := nI 0) C dX7_wire_35 36 rfl (by decide) ?_
      exact g_iret C hQ (Nat.le_of_ble_eq_true rfl) (Nat.le_of_ble_eq_true rfl) dX7_wire_36 (1, mw, qA, qB, mdr, wa) (Or.inl ⟨rfl, fun q => icB_f hm hmc c7 q.1, rfl, rfl, rfl, rfl, rfl⟩) (by first | (dsimp only; done) | rfl)
  · refine g_aload_n C dX7_wire_10 11 rfl rfl ?_
    refine g_iload_n C dX7_wire_11 12 rfl rfl ?_
    refine g_iload C dX7_wire_12 14 rfl rfl ?_
    refine g_callVi (ci := 11) (q0 := 0) (As := [.int b, .int cb]) (rest := [.ref g0]) (wr := [(g6, .inl (cI, 24, .inl (fun jj => nI (qA jj)))), (g7, .inl (cI, 24, .inl (fun jj => nI (qB jj)))), (g9, .inl (cJ, 24, .inr (.inl mdr))), (g10, .inl (cI, 256, .inl wa))]) (ws' := fun (_ : Unit) => [(g0, .inr (11, [.int (nI th), .int (nI mn), .ref g1, .ref g2, .int (nI mb), .ref g3, .ref g4, .ref g5, .int (nI mw), .ref g6, .ref g7, .ref g8, .ref g9, .ref g10, .long msa, .long msb, .ref g11, .ref g12, .ref g13, .ref g14, .ref g15, .int (nI mz), .ref g16, .ref g17, .ref g18, .int (nI mv), .ref g19, .int (nI my), .ref g20, .ref g21, .ref g22, .int wt, .int wr, .int fo])), (g1, .inl (cI, 16, .inl (fun jj => nI (mc jj)))), (g6, .inl (cI, 24, .inl (fun jj => nI (qA jj)))), (g7, .inl (cI, 24, .inl (fun jj => nI (qB jj)))), (g9, .inl (cJ, 24, .inr (.inl mdr))), (g10, .inl (cI, 256, .inl wa))]) C (fun sz => c_X7_isCavity _ _ cI cJ cB cZ sz g0 g1 g2 g3 g4 g5 g6 g7 g8 g9 g10 g11 g12 g13 g14 g15 g16 g17 g18 g19 g20 g21 g22 th mn mb mw mz mv my msa msb wt wr fo mc b cb (by omega)) gx_XP0 2 gX7_wire_X7_isCavity rfl rfl rfl (by decide +kernel) ⟨Nat.le_of_ble_eq_true rfl, Nat.le_of_ble_eq_true rfl⟩ rfl rfl [0, 1] [2, 3, 4, 5] [4, 5, 0, 1, 2, 3] rfl (by decide) rfl (by decide) (by decide) (fun _ => rfl) (by decide) rfl rfl (Nat.le_of_ble_eq_true rfl) dX7_wire_14 ⟨Nat.le_of_ble_eq_true rfl, Nat.le_of_ble_eq_true rfl⟩ 17 rfl (eqk ?_)
    refine g_if_eq_b C dX7_wire_17 24 20 (by decide) rfl (fun c17 => ?_) (fun c17 => ?_)
    · refine g_iconst (v := nI 1) C dX7_wire_24 25 rfl (by decide) ?_
      refine g_put C (ty := .int) iw_X7_wire_X7 tyX7 tyX7_ok nmX7 0 rfl rfl 0 (by decide) (by decide +kernel) rfl rfl (by decide +kernel) rfl rfl (Nat.le_of_ble_eq_true rfl) dX7_wire_25 28 rfl (ws' := [(g0, .inr (11, [.int (nI 1), .int (nI mn), .ref g1, .ref g2, .int (nI mb), .ref g3, .ref g4, .ref g5, .int (nI mw), .ref g6, .ref g7, .ref g8, .ref g9, .ref g10, .long msa, .long msb, .ref g11, .ref g12, .ref g13, .ref g14, .ref g15, .int (nI mz), .ref g16, .ref g17, .ref g18, .int (nI mv), .ref g19, .int (nI my), .ref g20, .ref g21, .ref g22, .int wt, .int wr, .int fo])), (g1, .inl (cI, 16, .inl (fun jj => nI (mc jj)))), (g6, .inl (cI, 24, .inl (fun jj => nI (qA jj)))), (g7, .inl (cI, 24, .inl (fun jj => nI (qB jj)))), (g9, .inl (cJ, 24, .inr (.inl mdr))), (g10, .inl (cI, 256, .inl wa))]) rfl ?_
      refine g_aload_n C dX7_wire_28 29 rfl rfl ?_
      refine g_get C iw_X7_wire_X7 0 rfl rfl 0 (by decide) (by decide +kernel) rfl rfl dX7_wire_29 32 rfl ?_
      refine g_if_eq_n C dX7_wire_32 37 35 (by decide) rfl (by omega) (fun c32 => ?_) (fun c32 => ?_)
      · exact absurd c32 (by omega)
      · refine g_iconst (v := nI 0) C dX7_wire_35 36 rfl (by decide) ?_
        exact g_iret C hQ (Nat.le_of_ble_eq_true rfl) (Nat.le_of_ble_eq_true rfl) dX7_wire_36 (1, mw, qA, qB, mdr, wa) (Or.inl ⟨rfl, fun q => icB_f hm hmc c17 q.2, rfl, rfl, rfl, rfl, rfl⟩) (by first | (dsimp only; done) | rfl)
    · refine g_iconst (v := nI 0) C dX7_wire_20 21 rfl (by decide) ?_
      refine g_goto C dX7_wire_21 25 (by decide) ?_
      refine g_put C (ty := .int) iw_X7_wire_X7 tyX7 tyX7_ok nmX7 0 rfl rfl 0 (by decide) (by decide +kernel) rfl rfl (by decide +kernel) rfl rfl (Nat.le_of_ble_eq_true rfl) dX7_wire_25 28 rfl (ws' := [(g0, .inr (11, [.int (nI 0), .int (nI mn), .ref g1, .ref g2, .int (nI mb), .ref g3, .ref g4, .ref g5, .int (nI mw), .ref g6, .ref g7, .ref g8, .ref g9, .ref g10, .long msa, .long msb, .ref g11, .ref g12, .ref g13, .ref g14, .ref g15, .int (nI mz), .ref g16, .ref g17, .ref g18, .int (nI mv), .ref g19, .int (nI my), .ref g20, .ref g21, .ref g22, .int wt, .int wr, .int fo])), (g1, .inl (cI, 16, .inl (fun jj => nI (mc jj)))), (g6, .inl (cI, 24, .inl (fun jj => nI (qA jj)))), (g7, .inl (cI, 24, .inl (fun jj => nI (qB jj)))), (g9, .inl (cJ, 24, .inr (.inl mdr))), (g10, .inl (cI, 256, .inl wa))]) rfl ?_
      refine g_aload_n C dX7_wire_28 29 rfl rfl ?_
      refine g_get C iw_X7_wire_X7 0 rfl rfl 0 (by decide) (by decide +kernel) rfl rfl dX7_wire_29 32 rfl ?_
      refine g_if_eq_n C dX7_wire_32 37 35 (by decide) rfl (by omega) (fun c32 => ?_) (fun c32 => ?_)
      · have hca := icB_t hm hmc c7
        have hcb := icB_t hm hmc c17
        obtain ⟨i, hi, rfl, k, hk, rfl⟩ := icB_t hm hmc c7
        have hci := hmc i hi
        obtain ⟨j, hj, rfl, m, hm, rfl⟩ := icB_t hm hmc c17
        have hcj := hmc j hj
        refine g_bipush (v := nI 16) C dX7_wire_37 39 rfl (by decide) ?_
        refine g_iload_n C dX7_wire_39 40 rfl rfl ?_
        refine g_imuln C dX7_wire_40 41 rfl ?_
        refine g_iload_n C dX7_wire_41 42 rfl rfl ?_
        refine g_iaddn C dX7_wire_42 43 rfl ?_
        refine g_istore C dX7_wire_43 45 rfl (by decide) [1, 2, 3, 4, 5, 0] (lv' := [(0, .ref g0), (1, .int (nI i)), (2, .int (nI k)), (3, .int (nI j)), (4, .int (nI m)), (5, .int (nI ((16 * i) + k)))]) rfl ?_
        refine g_bipush (v := nI 16) C dX7_wire_45 47 rfl (by decide) ?_
        refine g_iload_n C dX7_wire_47 48 rfl rfl ?_
        refine g_imuln C dX7_wire_48 49 rfl ?_
        refine g_iload C dX7_wire_49 51 rfl rfl ?_
        refine g_iaddn C dX7_wire_51 52 rfl ?_
        refine g_istore C dX7_wire_52 54 rfl (by decide) [1, 2, 3, 4, 5, 6, 0] (lv' := [(0, .ref g0), (1, .int (nI i)), (2, .int (nI k)), (3, .int (nI j)), (4, .int (nI m)), (5, .int (nI ((16 * i) + k))), (6, .int (nI ((16 * j) + m)))]) rfl ?_
        refine g_iload C dX7_wire_54 56 rfl rfl ?_
        refine g_iload C dX7_wire_56 58 rfl rfl ?_
        refine g_icmp_eq_n C dX7_wire_58 92 61 (by decide) rfl (by omega) (by omega) (fun c58 => ?_) (fun c58 => ?_)
        · refine g_iconst (v := -1) C dX7_wire_92 93 rfl (by decide) ?_
          exact g_iret C hQ (Nat.le_of_ble_eq_true rfl) (Nat.le_of_ble_eq_true rfl) dX7_wire_93 (0, mw, qA, qB, mdr, wa) (Or.inr ⟨rfl, ⟨hca, hcb⟩, by dsimp only; rw [cN_nI (by omega), cN_nI (by omega), cN_nI (by omega), cN_nI (by omega), Gwire, if_neg (by rintro ⟨q1, q2, q3, q4⟩; exact q1 c58)]⟩) (by first | (dsimp only; done) | rfl)
        · refine g_aload_n C dX7_wire_61 62 rfl rfl ?_
          refine g_get C iw_X7_wire_X7 0 rfl rfl 13 (by decide) (by decide +kernel) rfl rfl dX7_wire_62 65 rfl ?_
          refine g_iload C dX7_wire_65 67 rfl rfl ?_
          refine g_iald C 5 0 rfl rfl ((16 * i) + k) rfl (by omega) (by decide) dX7_wire_67 68 rfl ?_
          refine g_iconst (v := -1) C dX7_wire_68 69 rfl (by decide) ?_
          refine g_icmp_ne C dX7_wire_69 92 72 (by decide) rfl (fun c69 => ?_) (fun c69 => ?_)
          · refine g_iconst (v := -1) C dX7_wire_92 93 rfl (by decide) ?_
            exact g_iret C hQ (Nat.le_of_ble_eq_true rfl) (Nat.le_of_ble_eq_true rfl) dX7_wire_93 (0, mw, qA, qB, mdr, wa) (Or.inr ⟨rfl, ⟨hca, hcb⟩, by dsimp only; rw [cN_nI (by omega), cN_nI (by omega), cN_nI (by omega), cN_nI (by omega), Gwire, if_neg (by rintro ⟨q1, q2, q3, q4⟩; exact c69 q2)]⟩) (by first | (dsimp only; done) | rfl)
          · refine g_aload_n C dX7_wire_72 73 rfl rfl ?_
            refine g_get C iw_X7_wire_X7 0 rfl rfl 13 (by decide) (by decide +kernel) rfl rfl dX7_wire_73 76 rfl ?_
            refine g_iload C dX7_wire_76 78 rfl rfl ?_
            refine g_iald C 5 0 rfl rfl ((16 * j) + m) rfl (by omega) (by decide) dX7_wire_78 79 rfl ?_
            refine g_iconst (v := -1) C dX7_wire_79 80 rfl (by decide) ?_
            refine g_icmp_ne C dX7_wire_80 92 83 (by decide) rfl (fun c80 => ?_) (fun c80 => ?_)
            · refine g_iconst (v := -1) C dX7_wire_92 93 rfl (by decide) ?_
              exact g_iret C hQ (Nat.le_of_ble_eq_true rfl) (Nat.le_of_ble_eq_true rfl) dX7_wire_93 (0, mw, qA, qB, mdr, wa) (Or.inr ⟨rfl, ⟨hca, hcb⟩, by dsimp only; rw [cN_nI (by omega), cN_nI (by omega), cN_nI (by omega), cN_nI (by omega), Gwire, if_neg (by rintro ⟨q1, q2, q3, q4⟩; exact c80 q3)]⟩) (by first | (dsimp only; done) | rfl)
            · refine g_aload_n C dX7_wire_83 84 rfl rfl ?_
              refine g_get C iw_X7_wire_X7 0 rfl rfl 8 (by decide) (by decide +kernel) rfl rfl dX7_wire_84 87 rfl ?_
              refine g_bipush (v := nI 24) C dX7_wire_87 89 rfl (by decide) ?_
              refine g_icmp_ne_n C dX7_wire_89 94 92 (by decide) rfl (by omega) (by omega) (fun c89 => ?_) (fun c89 => ?_)
              · refine g_aload_n C dX7_wire_94 95 rfl rfl ?_
                refine g_get C iw_X7_wire_X7 0 rfl rfl 9 (by decide) (by decide +kernel) rfl rfl dX7_wire_95 98 rfl ?_
                refine g_aload_n C dX7_wire_98 99 rfl rfl ?_
                refine g_get C iw_X7_wire_X7 0 rfl rfl 8 (by decide) (by decide +kernel) rfl rfl dX7_wire_99 102 rfl ?_
                refine g_iload C dX7_wire_102 104 rfl rfl ?_
                refine g_iast C 2 0 rfl rfl mw rfl (by omega) (by decide) dX7_wire_104 105 rfl (ws' := [(g0, .inr (11, [.int (nI 0), .int (nI mn), .ref g1, .ref g2, .int (nI mb), .ref g3, .ref g4, .ref g5, .int (nI mw), .ref g6, .ref g7, .ref g8, .ref g9, .ref g10, .long msa, .long msb, .ref g11, .ref g12, .ref g13, .ref g14, .ref g15, .int (nI mz), .ref g16, .ref g17, .ref g18, .int (nI mv), .ref g19, .int (nI my), .ref g20, .ref g21, .ref g22, .int wt, .int wr, .int fo])), (g1, .inl (cI, 16, .inl (fun jj => nI (mc jj)))), (g6, .inl (cI, 24, .inl (fun jj => nI ((updN qA mw ((16 * i) + k)) jj)))), (g7, .inl (cI, 24, .inl (fun jj => nI (qB jj)))), (g9, .inl (cJ, 24, .inr (.inl mdr))), (g10, .inl (cI, 256, .inl wa))]) (by rw [upd_nI]; rfl) ?_
                refine g_aload_n C dX7_wire_105 106 rfl rfl ?_
                refine g_get C iw_X7_wire_X7 0 rfl rfl 10 (by decide) (by decide +kernel) rfl rfl dX7_wire_106 109 rfl ?_
                refine g_aload_n C dX7_wire_109 110 rfl rfl ?_
                refine g_get C iw_X7_wire_X7 0 rfl rfl 8 (by decide) (by decide +kernel) rfl rfl dX7_wire_110 113 rfl ?_
                refine g_iload C dX7_wire_113 115 rfl rfl ?_
                refine g_iast C 3 0 rfl rfl mw rfl (by omega) (by decide) dX7_wire_115 116 rfl (ws' := [(g0, .inr (11, [.int (nI 0), .int (nI mn), .ref g1, .ref g2, .int (nI mb), .ref g3, .ref g4, .ref g5, .int (nI mw), .ref g6, .ref g7, .ref g8, .ref g9, .ref g10, .long msa, .long msb, .ref g11, .ref g12, .ref g13, .ref g14, .ref g15, .int (nI mz), .ref g16, .ref g17, .ref g18, .int (nI mv), .ref g19, .int (nI my), .ref g20, .ref g21, .ref g22, .int wt, .int wr, .int fo])), (g1, .inl (cI, 16, .inl (fun jj => nI (mc jj)))), (g6, .inl (cI, 24, .inl (fun jj => nI ((updN qA mw ((16 * i) + k)) jj)))), (g7, .inl (cI, 24, .inl (fun jj => nI ((updN qB mw ((16 * j) + m)) jj)))), (g9, .inl (cJ, 24, .inr (.inl mdr))), (g10, .inl (cI, 256, .inl wa))]) (by rw [upd_nI]; rfl) ?_
                refine g_aload_n C dX7_wire_116 117 rfl rfl ?_
                refine g_get C iw_X7_wire_X7 0 rfl rfl 12 (by decide) (by decide +kernel) rfl rfl dX7_wire_117 120 rfl ?_
                refine g_aload_n C dX7_wire_120 121 rfl rfl ?_
                refine g_get C iw_X7_wire_X7 0 rfl rfl 8 (by decide) (by decide +kernel) rfl rfl dX7_wire_121 124 rfl ?_
                refine g_ldc2 C (1000000) (by decide +kernel) dX7_wire_124 127 rfl ?_
                refine g_last C 4 1 rfl rfl mw rfl (by omega) (by decide) dX7_wire_127 128 rfl (ws' := [(g0, .inr (11, [.int (nI 0), .int (nI mn), .ref g1, .ref g2, .int (nI mb), .ref g3, .ref g4, .ref g5, .int (nI mw), .ref g6, .ref g7, .ref g8, .ref g9, .ref g10, .long msa, .long msb, .ref g11, .ref g12, .ref g13, .ref g14, .ref g15, .int (nI mz), .ref g16, .ref g17, .ref g18, .int (nI mv), .ref g19, .int (nI my), .ref g20, .ref g21, .ref g22, .int wt, .int wr, .int fo])), (g1, .inl (cI, 16, .inl (fun jj => nI (mc jj)))), (g6, .inl (cI, 24, .inl (fun jj => nI ((updN qA mw ((16 * i) + k)) jj)))), (g7, .inl (cI, 24, .inl (fun jj => nI ((updN qB mw ((16 * j) + m)) jj)))), (g9, .inl (cJ, 24, .inr (.inl (vp_updL mdr mw (1000000))))), (g10, .inl (cI, 256, .inl wa))]) rfl ?_
                refine g_aload_n C dX7_wire_128 129 rfl rfl ?_
                refine g_get C iw_X7_wire_X7 0 rfl rfl 13 (by decide) (by decide +kernel) rfl rfl dX7_wire_129 132 rfl ?_
                refine g_iload C dX7_wire_132 134 rfl rfl ?_
                refine g_aload_n C dX7_wire_134 135 rfl rfl ?_
                refine g_get C iw_X7_wire_X7 0 rfl rfl 8 (by decide) (by decide +kernel) rfl rfl dX7_wire_135 138 rfl ?_
                refine g_iast C 5 0 rfl rfl ((16 * i) + k) rfl (by omega) (by decide) dX7_wire_138 139 rfl (ws' := [(g0, .inr (11, [.int (nI 0), .int (nI mn), .ref g1, .ref g2, .int (nI mb), .ref g3, .ref g4, .ref g5, .int (nI mw), .ref g6, .ref g7, .ref g8, .ref g9, .ref g10, .long msa, .long msb, .ref g11, .ref g12, .ref g13, .ref g14, .ref g15, .int (nI mz), .ref g16, .ref g17, .ref g18, .int (nI mv), .ref g19, .int (nI my), .ref g20, .ref g21, .ref g22, .int wt, .int wr, .int fo])), (g1, .inl (cI, 16, .inl (fun jj => nI (mc jj)))), (g6, .inl (cI, 24, .inl (fun jj => nI ((updN qA mw ((16 * i) + k)) jj)))), (g7, .inl (cI, 24, .inl (fun jj => nI ((updN qB mw ((16 * j) + m)) jj)))), (g9, .inl (cJ, 24, .inr (.inl (vp_updL mdr mw (1000000))))), (g10, .inl (cI, 256, .inl (upd wa ((16 * i) + k) (nI mw))))]) rfl ?_
                refine g_aload_n C dX7_wire_139 140 rfl rfl ?_
                refine g_get C iw_X7_wire_X7 0 rfl rfl 13 (by decide) (by decide +kernel) rfl rfl dX7_wire_140 143 rfl ?_
                refine g_iload C dX7_wire_143 145 rfl rfl ?_
                refine g_aload_n C dX7_wire_145 146 rfl rfl ?_
                refine g_get C iw_X7_wire_X7 0 rfl rfl 8 (by decide) (by decide +kernel) rfl rfl dX7_wire_146 149 rfl ?_
                refine g_iast C 5 0 rfl rfl ((16 * j) + m) rfl (by omega) (by decide) dX7_wire_149 150 rfl (ws' := [(g0, .inr (11, [.int (nI 0), .int (nI mn), .ref g1, .ref g2, .int (nI mb), .ref g3, .ref g4, .ref g5, .int (nI mw), .ref g6, .ref g7, .ref g8, .ref g9, .ref g10, .long msa, .long msb, .ref g11, .ref g12, .ref g13, .ref g14, .ref g15, .int (nI mz), .ref g16, .ref g17, .ref g18, .int (nI mv), .ref g19, .int (nI my), .ref g20, .ref g21, .ref g22, .int wt, .int wr, .int fo])), (g1, .inl (cI, 16, .inl (fun jj => nI (mc jj)))), (g6, .inl (cI, 24, .inl (fun jj => nI ((updN qA mw ((16 * i) + k)) jj)))), (g7, .inl (cI, 24, .inl (fun jj => nI ((updN qB mw ((16 * j) + m)) jj)))), (g9, .inl (cJ, 24, .inr (.inl (vp_updL mdr mw (1000000))))), (g10, .inl (cI, 256, .inl (upd (upd wa ((16 * i) + k) (nI mw)) ((16 * j) + m) (nI mw))))]) rfl ?_
                refine g_aload_n C dX7_wire_150 151 rfl rfl ?_
                refine g_dup C dX7_wire_151 152 rfl rfl ?_
                refine g_get C iw_X7_wire_X7 0 rfl rfl 8 (by decide) (by decide +kernel) rfl rfl dX7_wire_152 155 rfl ?_
                refine g_iconst (v := nI 1) C dX7_wire_155 156 rfl (by decide) ?_
                refine g_iaddn C dX7_wire_156 157 rfl ?_
                refine g_put C (ty := .int) iw_X7_wire_X7 tyX7 tyX7_ok nmX7 0 rfl rfl 8 (by decide) (by decide +kernel) rfl rfl (by decide +kernel) rfl rfl (Nat.le_of_ble_eq_true rfl) dX7_wire_157 160 rfl (ws' := [(g0, .inr (11, [.int (nI 0), .int (nI mn), .ref g1, .ref g2, .int (nI mb), .ref g3, .ref g4, .ref g5, .int (nI (mw + 1)), .ref g6, .ref g7, .ref g8, .ref g9, .ref g10, .long msa, .long msb, .ref g11, .ref g12, .ref g13, .ref g14, .ref g15, .int (nI mz), .ref g16, .ref g17, .ref g18, .int (nI mv), .ref g19, .int (nI my), .ref g20, .ref g21, .ref g22, .int wt, .int wr, .int fo])), (g1, .inl (cI, 16, .inl (fun jj => nI (mc jj)))), (g6, .inl (cI, 24, .inl (fun jj => nI ((updN qA mw ((16 * i) + k)) jj)))), (g7, .inl (cI, 24, .inl (fun jj => nI ((updN qB mw ((16 * j) + m)) jj)))), (g9, .inl (cJ, 24, .inr (.inl (vp_updL mdr mw (1000000))))), (g10, .inl (cI, 256, .inl (upd (upd wa ((16 * i) + k) (nI mw)) ((16 * j) + m) (nI mw))))]) rfl ?_
                refine g_aload_n C dX7_wire_160 161 rfl rfl ?_
                refine g_get C iw_X7_wire_X7 0 rfl rfl 8 (by decide) (by decide +kernel) rfl rfl dX7_wire_161 164 rfl ?_
                refine g_iconst (v := nI 1) C dX7_wire_164 165 rfl (by decide) ?_
                refine g_isubn C dX7_wire_165 166 rfl (by omega) ?_
                exact g_iret C hQ (Nat.le_of_ble_eq_true rfl) (Nat.le_of_ble_eq_true rfl) dX7_wire_166 (0, mw + 1, updN qA mw ((16 * i) + k), updN qB mw ((16 * j) + m), vp_updL mdr mw (1000000), upd (upd wa ((16 * i) + k) (nI mw)) ((16 * j) + m) (nI mw)) (Or.inr ⟨rfl, ⟨hca, hcb⟩, by dsimp only; rw [cN_nI (by omega), cN_nI (by omega), cN_nI (by omega), cN_nI (by omega), Gwire, if_pos ⟨c58, c69, c80, c89⟩, show mw + 1 - 1 = mw by omega]⟩) (by first | (dsimp only; done) | rfl)
              · refine g_iconst (v := -1) C dX7_wire_92 93 rfl (by decide) ?_
                exact g_iret C hQ (Nat.le_of_ble_eq_true rfl) (Nat.le_of_ble_eq_true rfl) dX7_wire_93 (0, mw, qA, qB, mdr, wa) (Or.inr ⟨rfl, ⟨hca, hcb⟩, by dsimp only; rw [cN_nI (by omega), cN_nI (by omega), cN_nI (by omega), cN_nI (by omega), Gwire, if_neg (by rintro ⟨q1, q2, q3, q4⟩; exact q4 c89)]⟩) (by first | (dsimp only; done) | rfl)
      · exact absurd c32 (by omega)
