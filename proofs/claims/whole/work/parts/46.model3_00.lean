theorem iw_X7_gauge_X7 : ∀ w ∈ wsX70, w ∈ wsX7_gauge := by decide +kernel
set_option maxHeartbeats 4000000 in
set_option maxRecDepth 100000 in
theorem c_X7_gauge (l : Launch) (D : va_G) (cI cJ cB cZ : ClassId) (sz : Nat) (g0 : Nat) (g1 : Nat) (g2 : Nat) (g3 : Nat) (g4 : Nat) (g5 : Nat) (g6 : Nat) (g7 : Nat) (g8 : Nat) (g9 : Nat) (g10 : Nat) (g11 : Nat) (g12 : Nat) (g13 : Nat) (g14 : Nat) (g15 : Nat) (g16 : Nat) (g17 : Nat) (g18 : Nat) (g19 : Nat) (g20 : Nat) (g21 : Nat) (g22 : Nat) (th : Nat) (mn : Nat) (mb : Nat) (mw : Nat) (mz : Nat) (mv : Nat) (my : Nat) (msa : Int64) (msb : Int64) (wt : Int32) (wr : Int32) (fo : Int32) (fa : Nat → Int64) (qA : Nat → Nat) (qB : Nat → Nat) (mlo : Nat → Int64) (mdr : Nat → Int64) (td : Nat → Int32) (mar : Nat → Int64) (mam : Nat → Int64) (moh : Nat → Int64) (x : Int32) (hmw : mw ≤ 24) (hA : ∀ k, k < mw → qA k < 256) (hB : ∀ k, k < mw → qB k < 256) (hsb : ¬ msb = 0) : Met l yX7_gauge wsX7_gauge ({ frames := 1, cells := 0, slots := 0, locals := 23 }) (va_Pc [.ref g0, .int x] (pW D (TY cI cJ cB cZ) [(g0, .inr (11, [.int (nI th), .int (nI mn), .ref g1, .ref g2, .int (nI mb), .ref g3, .ref g4, .ref g5, .int (nI mw), .ref g6, .ref g7, .ref g8, .ref g9, .ref g10, .long msa, .long msb, .ref g11, .ref g12, .ref g13, .ref g14, .ref g15, .int (nI mz), .ref g16, .ref g17, .ref g18, .int (nI mv), .ref g19, .int (nI my), .ref g20, .ref g21, .ref g22, .int wt, .int wr, .int fo])), (g2, .inl (cJ, 256, .inr (.inl fa))), (g6, .inl (cI, 24, .inl (fun jj => nI (qA jj)))), (g7, .inl (cI, 24, .inl (fun jj => nI (qB jj)))), (g8, .inl (cJ, 24, .inr (.inl mlo))), (g9, .inl (cJ, 24, .inr (.inl mdr))), (g11, .inl (cZ, 10, .inl td)), (g12, .inl (cJ, 10, .inr (.inl mar))), (g13, .inl (cJ, 10, .inr (.inl mam))), (g14, .inl (cJ, 10, .inr (.inl moh)))] (fun _ => True) sz)) (va_Qi (fun (rv : Int32) (u : Nat) => (u = 1 ∧ ¬ inR x mw) ∨ (u = 0 ∧ inR x mw ∧ rv = if lenO fa qA qB msa msb (cN x) < 0 then -1 else oI (mgg (mdo td mam moh (mlo (cN x)) (mdr (cN x)) (lenO fa qA qB msa msb (cN x))) mar 10))) (qW D (TY cI cJ cB cZ) (va_A [(g0, .inr (11, [.int (nI th), .int (nI mn), .ref g1, .ref g2, .int (nI mb), .ref g3, .ref g4, .ref g5, .int (nI mw), .ref g6, .ref g7, .ref g8, .ref g9, .ref g10, .long msa, .long msb, .ref g11, .ref g12, .ref g13, .ref g14, .ref g15, .int (nI mz), .ref g16, .ref g17, .ref g18, .int (nI mv), .ref g19, .int (nI my), .ref g20, .ref g21, .ref g22, .int wt, .int wr, .int fo])), (g2, .inl (cJ, 256, .inr (.inl fa))), (g6, .inl (cI, 24, .inl (fun jj => nI (qA jj)))), (g7, .inl (cI, 24, .inl (fun jj => nI (qB jj)))), (g8, .inl (cJ, 24, .inr (.inl mlo))), (g9, .inl (cJ, 24, .inr (.inl mdr))), (g11, .inl (cZ, 10, .inl td)), (g12, .inl (cJ, 10, .inr (.inl mar))), (g13, .inl (cJ, 10, .inr (.inl mam))), (g14, .inl (cJ, 10, .inr (.inl moh)))] sz) (fun u => [(g0, .inr (11, [.int (nI u), .int (nI mn), .ref g1, .ref g2, .int (nI mb), .ref g3, .ref g4, .ref g5, .int (nI mw), .ref g6, .ref g7, .ref g8, .ref g9, .ref g10, .long msa, .long msb, .ref g11, .ref g12, .ref g13, .ref g14, .ref g15, .int (nI mz), .ref g16, .ref g17, .ref g18, .int (nI mv), .ref g19, .int (nI my), .ref g20, .ref g21, .ref g22, .int wt, .int wr, .int fo])), (g2, .inl (cJ, 256, .inr (.inl fa))), (g6, .inl (cI, 24, .inl (fun jj => nI (qA jj)))), (g7, .inl (cI, 24, .inl (fun jj => nI (qB jj)))), (g8, .inl (cJ, 24, .inr (.inl mlo))), (g9, .inl (cJ, 24, .inr (.inl mdr))), (g11, .inl (cZ, 10, .inl td)), (g12, .inl (cJ, 10, .inr (.inl mar))), (g13, .inl (cJ, 10, .inr (.inl mam))), (g14, .inl (cJ, 10, .inr (.inl moh)))])) (va_A [(g0, .inr (11, [.int (nI th), .int (nI mn), .ref g1, .ref g2, .int (nI mb), .ref g3, .ref g4, .ref g5, .int (nI mw), .ref g6, .ref g7, .ref g8, .ref g9, .ref g10, .long msa, .long msb, .ref g11, .ref g12, .ref g13, .ref g14, .ref g15, .int (nI mz), .ref g16, .ref g17, .ref g18, .int (nI mv), .ref g19, .int (nI my), .ref g20, .ref g21, .ref g22, .int wt, .int wr, .int fo])), (g2, .inl (cJ, 256, .inr (.inl fa))), (g6, .inl (cI, 24, .inl (fun jj => nI (qA jj)))), (g7, .inl (cI, 24, .inl (fun jj => nI (qB jj)))), (g8, .inl (cJ, 24, .inr (.inl mlo))), (g9, .inl (cJ, 24, .inr (.inl mdr))), (g11, .inl (cZ, 10, .inl td)), (g12, .inl (cJ, 10, .inr (.inl mar))), (g13, .inl (cJ, 10, .inr (.inl mam))), (g14, .inl (cJ, 10, .inr (.inl moh)))] sz)) 0 0 (va_A [(g0, .inr (11, [.int (nI th), .int (nI mn), .ref g1, .ref g2, .int (nI mb), .ref g3, .ref g4, .ref g5, .int (nI mw), .ref g6, .ref g7, .ref g8, .ref g9, .ref g10, .long msa, .long msb, .ref g11, .ref g12, .ref g13, .ref g14, .ref g15, .int (nI mz), .ref g16, .ref g17, .ref g18, .int (nI mv), .ref g19, .int (nI my), .ref g20, .ref g21, .ref g22, .int wt, .int wr, .int fo])), (g2, .inl (cJ, 256, .inr (.inl fa))), (g6, .inl (cI, 24, .inl (fun jj => nI (qA jj)))), (g7, .inl (cI, 24, .inl (fun jj => nI (qB jj)))), (g8, .inl (cJ, 24, .inr (.inl mlo))), (g9, .inl (cJ, 24, .inr (.inl mdr))), (g11, .inl (cZ, 10, .inl td)), (g12, .inl (cJ, 10, .inr (.inl mar))), (g13, .inl (cJ, 10, .inr (.inl mam))), (g14, .inl (cJ, 10, .inr (.inl moh)))] sz) := by
  refine gx_met RX7 rfl (by decide) rfl (Nat.le_of_ble_eq_true rfl) ?_
  intro X hl hDx hAx C hQ hXP hsz hin
  subst hl; subst hDx
  rw [← hAx] at hQ
  refine g_lv [0, 1] (lv' := [(0, .ref g0), (1, .int x)]) rfl ?_
  refine g_aload_n C dX7_gauge_0 1 rfl rfl ?_
  refine g_aload_n C dX7_gauge_1 2 rfl rfl ?_
  refine g_iload_n C dX7_gauge_2 3 rfl rfl ?_
  refine g_callVi (ci := 11) (q0 := 0) (As := [.int x]) (rest := [.ref g0]) (wr := [(g2, .inl (cJ, 256, .inr (.inl fa))), (g6, .inl (cI, 24, .inl (fun jj => nI (qA jj)))), (g7, .inl (cI, 24, .inl (fun jj => nI (qB jj)))), (g8, .inl (cJ, 24, .inr (.inl mlo))), (g9, .inl (cJ, 24, .inr (.inl mdr))), (g11, .inl (cZ, 10, .inl td)), (g12, .inl (cJ, 10, .inr (.inl mar))), (g13, .inl (cJ, 10, .inr (.inl mam))), (g14, .inl (cJ, 10, .inr (.inl moh)))]) (ws' := fun (_ : Unit) => [(g0, .inr (11, [.int (nI th), .int (nI mn), .ref g1, .ref g2, .int (nI mb), .ref g3, .ref g4, .ref g5, .int (nI mw), .ref g6, .ref g7, .ref g8, .ref g9, .ref g10, .long msa, .long msb, .ref g11, .ref g12, .ref g13, .ref g14, .ref g15, .int (nI mz), .ref g16, .ref g17, .ref g18, .int (nI mv), .ref g19, .int (nI my), .ref g20, .ref g21, .ref g22, .int wt, .int wr, .int fo])), (g2, .inl (cJ, 256, .inr (.inl fa))), (g6, .inl (cI, 24, .inl (fun jj => nI (qA jj)))), (g7, .inl (cI, 24, .inl (fun jj => nI (qB jj)))), (g8, .inl (cJ, 24, .inr (.inl mlo))), (g9, .inl (cJ, 24, .inr (.inl mdr))), (g11, .inl (cZ, 10, .inl td)), (g12, .inl (cJ, 10, .inr (.inl mar))), (g13, .inl (cJ, 10, .inr (.inl mam))), (g14, .inl (cJ, 10, .inr (.inl moh)))]) C (fun sz => c_X7_isWire _ _ cI cJ cB cZ sz g0 g1 g2 g3 g4 g5 g6 g7 g8 g9 g10 g11 g12 g13 g14 g15 g16 g17 g18 g19 g20 g21 g22 th mn mb mw mz mv my msa msb wt wr fo x ) gx_XP0 1 gX7_gauge_X7_isWire rfl rfl rfl (by decide +kernel) ⟨Nat.le_of_ble_eq_true rfl, Nat.le_of_ble_eq_true rfl⟩ rfl rfl [0] [1, 2, 3, 4, 5, 6, 7, 8, 9] [9, 0, 1, 2, 3, 4, 5, 6, 7, 8] rfl (by decide) rfl (by decide) (by decide) (fun _ => rfl) (by decide) rfl rfl (Nat.le_of_ble_eq_true rfl) dX7_gauge_3 ⟨Nat.le_of_ble_eq_true rfl, Nat.le_of_ble_eq_true rfl⟩ 6 rfl (eqk ?_)
  refine g_if_eq_b C dX7_gauge_6 13 9 (by decide) rfl (fun c6 => ?_) (fun c6 => ?_)
  · refine g_iconst (v := nI 1) C dX7_gauge_13 14 rfl (by decide) ?_
    refine g_put C (ty := .int) iw_X7_gauge_X7 tyX7 tyX7_ok nmX7 0 rfl rfl 0 (by decide) (by decide +kernel) rfl rfl (by decide +kernel) rfl rfl (Nat.le_of_ble_eq_true rfl) dX7_gauge_14 17 rfl (ws' := [(g0, .inr (11, [.int (nI 1), .int (nI mn), .ref g1, .ref g2, .int (nI mb), .ref g3, .ref g4, .ref g5, .int (nI mw), .ref g6, .ref g7, .ref g8, .ref g9, .ref g10, .long msa, .long msb, .ref g11, .ref g12, .ref g13, .ref g14, .ref g15, .int (nI mz), .ref g16, .ref g17, .ref g18, .int (nI mv), .ref g19, .int (nI my), .ref g20, .ref g21, .ref g22, .int wt, .int wr, .int fo])), (g2, .inl (cJ, 256, .inr (.inl fa))), (g6, .inl (cI, 24, .inl (fun jj => nI (qA jj)))), (g7, .inl (cI, 24, .inl (fun jj => nI (qB jj)))), (g8, .inl (cJ, 24, .inr (.inl mlo))), (g9, .inl (cJ, 24, .inr (.inl mdr))), (g11, .inl (cZ, 10, .inl td)), (g12, .inl (cJ, 10, .inr (.inl mar))), (g13, .inl (cJ, 10, .inr (.inl mam))), (g14, .inl (cJ, 10, .inr (.inl moh)))]) rfl ?_
    refine g_aload_n C dX7_gauge_17 18 rfl rfl ?_
    refine g_get C iw_X7_gauge_X7 0 rfl rfl 0 (by decide) (by decide +kernel) rfl rfl dX7_gauge_18 21 rfl ?_
    refine g_if_eq_n C dX7_gauge_21 26 24 (by decide) rfl (by omega) (fun c21 => ?_) (fun c21 => ?_)
    · exact absurd c21 (by omega)
    · refine g_iconst (v := nI 0) C dX7_gauge_24 25 rfl (by decide) ?_
      exact g_iret C hQ (Nat.le_of_ble_eq_true rfl) (Nat.le_of_ble_eq_true rfl) dX7_gauge_25 (1) (Or.inl ⟨rfl, inB_f (by omega) c6⟩) (by first | (dsimp only; done) | rfl)
  · refine g_iconst (v := nI 0) C dX7_gauge_9 10 rfl (by decide) ?_
    refine g_goto C dX7_gauge_10 14 (by decide) ?_
    refine g_put C (ty := .int) iw_X7_gauge_X7 tyX7 tyX7_ok nmX7 0 rfl rfl 0 (by decide) (by decide +kernel) rfl rfl (by decide +kernel) rfl rfl (Nat.le_of_ble_eq_true rfl) dX7_gauge_14 17 rfl (ws' := [(g0, .inr (11, [.int (nI 0), .int (nI mn), .ref g1, .ref g2, .int (nI mb), .ref g3, .ref g4, .ref g5, .int (nI mw), .ref g6, .ref g7, .ref g8, .ref g9, .ref g10, .long msa, .long msb, .ref g11, .ref g12, .ref g13, .ref g14, .ref g15, .int (nI mz), .ref g16, .ref g17, .ref g18, .int (nI mv), .ref g19, .int (nI my), .ref g20, .ref g21, .ref g22, .int wt, .int wr, .int fo])), (g2, .inl (cJ, 256, .inr (.inl fa))), (g6, .inl (cI, 24, .inl (fun jj => nI (qA jj)))), (g7, .inl (cI, 24, .inl (fun jj => nI (qB jj)))), (g8, .inl (cJ, 24, .inr (.inl mlo))), (g9, .inl (cJ, 24, .inr (.inl mdr))), (g11, .inl (cZ, 10, .inl td)), (g12, .inl (cJ, 10, .inr (.inl mar))), (g13, .inl (cJ, 10, .inr (.inl mam))), (g14, .inl (cJ, 10, .inr (.inl moh)))]) rfl ?_
    refine g_aload_n C dX7_gauge_17 18 rfl rfl ?_
    refine g_get C iw_X7_gauge_X7 0 rfl rfl 0 (by decide) (by decide +kernel) rfl rfl dX7_gauge_18 21 rfl ?_
    refine g_if_eq_n C dX7_gauge_21 26 24 (by decide) rfl (by omega) (fun c21 => ?_) (fun c21 => ?_)
    · obtain ⟨i, hi, rfl⟩ := inB_t (by omega) c6
      refine g_aload_n C dX7_gauge_26 27 rfl rfl ?_
      refine g_iload_n C dX7_gauge_27 28 rfl rfl ?_
      refine g_callVl (ci := 11) (q0 := 0) (As := [.int (nI i)]) (rest := []) (wr := [(g8, .inl (cJ, 24, .inr (.inl mlo))), (g9, .inl (cJ, 24, .inr (.inl mdr))), (g11, .inl (cZ, 10, .inl td)), (g12, .inl (cJ, 10, .inr (.inl mar))), (g13, .inl (cJ, 10, .inr (.inl mam))), (g14, .inl (cJ, 10, .inr (.inl moh)))]) (ws' := fun (_ : Unit) => [(g0, .inr (11, [.int (nI 0), .int (nI mn), .ref g1, .ref g2, .int (nI mb), .ref g3, .ref g4, .ref g5, .int (nI mw), .ref g6, .ref g7, .ref g8, .ref g9, .ref g10, .long msa, .long msb, .ref g11, .ref g12, .ref g13, .ref g14, .ref g15, .int (nI mz), .ref g16, .ref g17, .ref g18, .int (nI mv), .ref g19, .int (nI my), .ref g20, .ref g21, .ref g22, .int wt, .int wr, .int fo])), (g2, .inl (cJ, 256, .inr (.inl fa))), (g6, .inl (cI, 24, .inl (fun jj => nI (qA jj)))), (g7, .inl (cI, 24, .inl (fun jj => nI (qB jj)))), (g8, .inl (cJ, 24, .inr (.inl mlo))), (g9, .inl (cJ, 24, .inr (.inl mdr))), (g11, .inl (cZ, 10, .inl td)), (g12, .inl (cJ, 10, .inr (.inl mar))), (g13, .inl (cJ, 10, .inr (.inl mam))), (g14, .inl (cJ, 10, .inr (.inl moh)))]) C (fun sz => c_X7_lengthOf _ _ cI cJ cB cZ sz g0 g1 g2 g3 g4 g5 g6 g7 g8 g9 g10 g11 g12 g13 g14 g15 g16 g17 g18 g19 g20 g21 g22 0 mn mb mw mz mv my msa msb wt wr fo fa qA qB i (by omega) (hA i hi) (hB i hi) hsb) gx_XP0 1 gX7_gauge_X7_lengthOf rfl rfl rfl (by decide +kernel) ⟨Nat.le_of_ble_eq_true rfl, Nat.le_of_ble_eq_true rfl⟩ rfl rfl [0, 1, 2, 3] [4, 5, 6, 7, 8, 9] [6, 7, 8, 9, 0, 1, 2, 3, 4, 5] rfl (by decide) rfl (by decide) (by decide) (fun _ => rfl) (by decide) rfl rfl (Nat.le_of_ble_eq_true rfl) dX7_gauge_28 ⟨Nat.le_of_ble_eq_true rfl, Nat.le_of_ble_eq_true rfl⟩ 31 rfl (eqk ?_)
      refine g_lstore_n C dX7_gauge_31 32 rfl (by decide) [1, 2, 0] (lv' := [(0, .ref g0), (1, .int (nI i)), (2, .long (lenO fa qA qB msa msb i))]) rfl ?_
      refine g_iconst (v := -1) C dX7_gauge_32 33 rfl (by decide) ?_
      refine g_istore C dX7_gauge_33 35 rfl (by decide) [1, 2, 3, 0] (lv' := [(0, .ref g0), (1, .int (nI i)), (2, .long (lenO fa qA qB msa msb i)), (4, .int (-1))]) rfl ?_
      refine g_iconst (v := nI 0) C dX7_gauge_35 36 rfl (by decide) ?_
      refine g_istore C dX7_gauge_36 38 rfl (by decide) [1, 2, 3, 4, 0] (lv' := [(0, .ref g0), (1, .int (nI i)), (2, .long (lenO fa qA qB msa msb i)), (4, .int (-1)), (5, .int (nI 0))]) rfl ?_
      have hloop : ∀ (fuel r : Nat), r ≤ 10 → 10 + 1 ≤ r + fuel → (¬ lenO fa qA qB msa msb i < 0 ∨ r = 0) → gx X 0 0 [(g0, .inr (11, [.int (nI 0), .int (nI mn), .ref g1, .ref g2, .int (nI mb), .ref g3, .ref g4, .ref g5, .int (nI mw), .ref g6, .ref g7, .ref g8, .ref g9, .ref g10, .long msa, .long msb, .ref g11, .ref g12, .ref g13, .ref g14, .ref g15, .int (nI mz), .ref g16, .ref g17, .ref g18, .int (nI mv), .ref g19, .int (nI my), .ref g20, .ref g21, .ref g22, .int wt, .int wr, .int fo])), (g2, .inl (cJ, 256, .inr (.inl fa))), (g6, .inl (cI, 24, .inl (fun jj => nI (qA jj)))), (g7, .inl (cI, 24, .inl (fun jj => nI (qB jj)))), (g8, .inl (cJ, 24, .inr (.inl mlo))), (g9, .inl (cJ, 24, .inr (.inl mdr))), (g11, .inl (cZ, 10, .inl td)), (g12, .inl (cJ, 10, .inr (.inl mar))), (g13, .inl (cJ, 10, .inr (.inl mam))), (g14, .inl (cJ, 10, .inr (.inl moh)))] 38 [(0, .ref g0), (1, .int (nI i)), (2, .long (lenO fa qA qB msa msb i)), (4, .int (oI (mgg (mdo td mam moh (mlo i) (mdr i) (lenO fa qA qB msa msb i)) mar r))), (5, .int (nI r))] [] := by
        intro fuel
        induction fuel with
        | zero => intro r h1 h2; exact absurd h2 (by omega)
        | succ fuel hloop_ih =>
          intro r hle hfu hz
          refine g_iload C dX7_gauge_38 40 rfl rfl ?_
          refine g_bipush (v := nI 10) C dX7_gauge_40 42 rfl (by decide) ?_
          refine g_icmp_ge_n C dX7_gauge_42 154 45 (by decide) rfl (by omega) (by omega) (fun c42 => ?_) (fun c42 => ?_)
          · have e_r : 10 = r := by omega
            subst e_r
            refine g_iload C dX7_gauge_154 156 rfl rfl ?_
            exact g_iret C hQ (Nat.le_of_ble_eq_true rfl) (Nat.le_of_ble_eq_true rfl) dX7_gauge_156 (0) (Or.inr ⟨rfl, ⟨i, hi, rfl⟩, by rw [cN_nI (by omega), if_neg (by rcases hz with q | q; exact q; exact absurd q (by omega))]⟩) (by first | (dsimp only; done) | rfl)
          · refine g_lload_n C dX7_gauge_45 46 rfl rfl ?_
            refine g_lconst (v := 0) C dX7_gauge_46 47 rfl (by decide) ?_
            refine g_lc_lt C dX7_gauge_47 48 rfl dX7_gauge_48 154 51 (by decide) rfl (fun c47 => ?_) (fun c47 => ?_)
            · refine g_iload C dX7_gauge_154 156 rfl rfl ?_
              exact g_iret C hQ (Nat.le_of_ble_eq_true rfl) (Nat.le_of_ble_eq_true rfl) dX7_gauge_156 (0) (Or.inr ⟨rfl, ⟨i, hi, rfl⟩, by rw [cN_nI (by omega), if_pos c47, show r = 0 by rcases hz with q | q; exact absurd c47 q; exact q]; rfl⟩) (by first | (dsimp only; done) | rfl)
            · refine g_aload_n C dX7_gauge_51 52 rfl rfl ?_
              refine g_get C iw_X7_gauge_X7 0 rfl rfl 16 (by decide) (by decide +kernel) rfl rfl dX7_gauge_52 55 rfl ?_
              refine g_iload C dX7_gauge_55 57 rfl rfl ?_
              refine g_zald C 6 3 rfl rfl r rfl (by omega) (by decide) dX7_gauge_57 58 rfl ?_
              refine g_if_eq C dX7_gauge_58 112 61 (by decide) rfl (fun c58 => ?_) (fun c58 => ?_)
              · refine g_iconst (v := nI 0) C dX7_gauge_112 113 rfl (by decide) ?_
                refine g_istore C dX7_gauge_113 115 rfl (by decide) [1, 2, 3, 4, 5, 0] (lv' := [(0, .ref g0), (1, .int (nI i)), (2, .long (lenO fa qA qB msa msb i)), (4, .int (oI (mgg (mdo td mam moh (mlo i) (mdr i) (lenO fa qA qB msa msb i)) mar r))), (5, .int (nI r)), (6, .int (nI 0))]) rfl ?_
                refine g_iload C dX7_gauge_115 117 rfl rfl ?_
                refine g_if_eq_n C dX7_gauge_117 148 120 (by decide) rfl (by omega) (fun c117 => ?_) (fun c117 => ?_)
                · refine g_iinc (v := nI (r + 1)) C dX7_gauge_148 151 rfl rfl (nI_add r 1) (by decide) [1, 2, 3, 4, 0, 5] (lv' := [(0, .ref g0), (1, .int (nI i)), (2, .long (lenO fa qA qB msa msb i)), (4, .int (oI (mgg (mdo td mam moh (mlo i) (mdr i) (lenO fa qA qB msa msb i)) mar r))), (5, .int (nI (r + 1))), (6, .int (nI 0))]) rfl ?_
                  refine g_goto C dX7_gauge_151 38 (by decide) ?_
                  refine g_lv [0, 1, 2, 3, 4] (lv' := [(0, .ref g0), (1, .int (nI i)), (2, .long (lenO fa qA qB msa msb i)), (4, .int (oI (mgg (mdo td mam moh (mlo i) (mdr i) (lenO fa qA qB msa msb i)) mar r))), (5, .int (nI (r + 1)))]) rfl ?_
                  have hpr : (mdo td mam moh (mlo i) (mdr i) (lenO fa qA qB msa msb i)) r = false := by simp [mdo, c58]
                  rw [show mgg (mdo td mam moh (mlo i) (mdr i) (lenO fa qA qB msa msb i)) mar r = mgg (mdo td mam moh (mlo i) (mdr i) (lenO fa qA qB msa msb i)) mar (r + 1) from by rw [show mgg (mdo td mam moh (mlo i) (mdr i) (lenO fa qA qB msa msb i)) mar (r + 1) = (match mgg (mdo td mam moh (mlo i) (mdr i) (lenO fa qA qB msa msb i)) mar r with | none => if (mdo td mam moh (mlo i) (mdr i) (lenO fa qA qB msa msb i)) r = true then some r else none | some b => if (mdo td mam moh (mlo i) (mdr i) (lenO fa qA qB msa msb i)) r = true ∧ mar r < mar b then some r else some b) from rfl]; cases mgg (mdo td mam moh (mlo i) (mdr i) (lenO fa qA qB msa msb i)) mar r with | none => simp [hpr] | some j => simp [hpr]]
                  exact hloop_ih (r + 1) (by omega) (by omega) (Or.inl c47)
                · exact absurd c117 (by omega)
              · refine g_aload_n C dX7_gauge_61 62 rfl rfl ?_
                refine g_get C iw_X7_gauge_X7 0 rfl rfl 18 (by decide) (by decide +kernel) rfl rfl dX7_gauge_62 65 rfl ?_
                refine g_iload C dX7_gauge_65 67 rfl rfl ?_
                refine g_lald C 8 1 rfl rfl r rfl (by omega) (by decide) dX7_gauge_67 68 rfl ?_
                refine g_aload_n C dX7_gauge_68 69 rfl rfl ?_
                refine g_get C iw_X7_gauge_X7 0 rfl rfl 11 (by decide) (by decide +kernel) rfl rfl dX7_gauge_69 72 rfl ?_
                refine g_iload_n C dX7_gauge_72 73 rfl rfl ?_
                refine g_lald C 4 1 rfl rfl i rfl (by omega) (by decide) dX7_gauge_73 74 rfl ?_
                refine g_lc_lt C dX7_gauge_74 75 rfl dX7_gauge_75 112 78 (by decide) rfl (fun c74 => ?_) (fun c74 => ?_)
                · refine g_iconst (v := nI 0) C dX7_gauge_112 113 rfl (by decide) ?_
                  refine g_istore C dX7_gauge_113 115 rfl (by decide) [1, 2, 3, 4, 5, 0] (lv' := [(0, .ref g0), (1, .int (nI i)), (2, .long (lenO fa qA qB msa msb i)), (4, .int (oI (mgg (mdo td mam moh (mlo i) (mdr i) (lenO fa qA qB msa msb i)) mar r))), (5, .int (nI r)), (6, .int (nI 0))]) rfl ?_
                  refine g_iload C dX7_gauge_115 117 rfl rfl ?_
                  refine g_if_eq_n C dX7_gauge_117 148 120 (by decide) rfl (by omega) (fun c117 => ?_) (fun c117 => ?_)
                  · refine g_iinc (v := nI (r + 1)) C dX7_gauge_148 151 rfl rfl (nI_add r 1) (by decide) [1, 2, 3, 4, 0, 5] (lv' := [(0, .ref g0), (1, .int (nI i)), (2, .long (lenO fa qA qB msa msb i)), (4, .int (oI (mgg (mdo td mam moh (mlo i) (mdr i) (lenO fa qA qB msa msb i)) mar r))), (5, .int (nI (r + 1))), (6, .int (nI 0))]) rfl ?_
                    refine g_goto C dX7_gauge_151 38 (by decide) ?_
                    refine g_lv [0, 1, 2, 3, 4] (lv' := [(0, .ref g0), (1, .int (nI i)), (2, .long (lenO fa qA qB msa msb i)), (4, .int (oI (mgg (mdo td mam moh (mlo i) (mdr i) (lenO fa qA qB msa msb i)) mar r))), (5, .int (nI (r + 1)))]) rfl ?_
                    have hpr : (mdo td mam moh (mlo i) (mdr i) (lenO fa qA qB msa msb i)) r = false := by simp [mdo, c58, c74]
                    rw [show mgg (mdo td mam moh (mlo i) (mdr i) (lenO fa qA qB msa msb i)) mar r = mgg (mdo td mam moh (mlo i) (mdr i) (lenO fa qA qB msa msb i)) mar (r + 1) from by rw [show mgg (mdo td mam moh (mlo i) (mdr i) (lenO fa qA qB msa msb i)) mar (r + 1) = (match mgg (mdo td mam moh (mlo i) (mdr i) (lenO fa qA qB msa msb i)) mar r with | none => if (mdo td mam moh (mlo i) (mdr i) (lenO fa qA qB msa msb i)) r = true then some r else none | some b => if (mdo td mam moh (mlo i) (mdr i) (lenO fa qA qB msa msb i)) r = true ∧ mar r < mar b then some r else some b) from rfl]; cases mgg (mdo td mam moh (mlo i) (mdr i) (lenO fa qA qB msa msb i)) mar r with | none => simp [hpr] | some j => simp [hpr]]
                    exact hloop_ih (r + 1) (by omega) (by omega) (Or.inl c47)
                  · exact absurd c117 (by omega)
                · refine g_aload_n C dX7_gauge_78 79 rfl rfl ?_
                  refine g_get C iw_X7_gauge_X7 0 rfl rfl 11 (by decide) (by decide +kernel) rfl rfl dX7_gauge_79 82 rfl ?_
                  refine g_iload_n C dX7_gauge_82 83 rfl rfl ?_
                  refine g_lald C 4 1 rfl rfl i rfl (by omega) (by decide) dX7_gauge_83 84 rfl ?_
                  refine g_aload_n C dX7_gauge_84 85 rfl rfl ?_
                  refine g_get C iw_X7_gauge_X7 0 rfl rfl 19 (by decide) (by decide +kernel) rfl rfl dX7_gauge_85 88 rfl ?_
                  refine g_iload C dX7_gauge_88 90 rfl rfl ?_
                  refine g_lald C 9 1 rfl rfl r rfl (by omega) (by decide) dX7_gauge_90 91 rfl ?_
                  refine g_lmul C dX7_gauge_91 92 rfl ?_
                  refine g_lload_n C dX7_gauge_92 93 rfl rfl ?_
                  refine g_lmul C dX7_gauge_93 94 rfl ?_
                  refine g_aload_n C dX7_gauge_94 95 rfl rfl ?_
                  refine g_get C iw_X7_gauge_X7 0 rfl rfl 12 (by decide) (by decide +kernel) rfl rfl dX7_gauge_95 98 rfl ?_
                  refine g_iload_n C dX7_gauge_98 99 rfl rfl ?_
                  refine g_lald C 5 1 rfl rfl i rfl (by omega) (by decide) dX7_gauge_99 100 rfl ?_
                  refine g_ldc2 C (1000000000) (by decide +kernel) dX7_gauge_100 103 rfl ?_
                  refine g_lmul C dX7_gauge_103 104 rfl ?_
                  refine g_lc_gt C dX7_gauge_104 105 rfl dX7_gauge_105 112 108 (by decide) rfl (fun c104 => ?_) (fun c104 => ?_)
                  · refine g_iconst (v := nI 0) C dX7_gauge_112 113 rfl (by decide) ?_
                    refine g_istore C dX7_gauge_113 115 rfl (by decide) [1, 2, 3, 4, 5, 0] (lv' := [(0, .ref g0), (1, .int (nI i)), (2, .long (lenO fa qA qB msa msb i)), (4, .int (oI (mgg (mdo td mam moh (mlo i) (mdr i) (lenO fa qA qB msa msb i)) mar r))), (5, .int (nI r)), (6, .int (nI 0))]) rfl ?_
                    refine g_iload C dX7_gauge_115 117 rfl rfl ?_
                    refine g_if_eq_n C dX7_gauge_117 148 120 (by decide) rfl (by omega) (fun c117 => ?_) (fun c117 => ?_)
                    · refine g_iinc (v := nI (r + 1)) C dX7_gauge_148 151 rfl rfl (nI_add r 1) (by decide) [1, 2, 3, 4, 0, 5] (lv' := [(0, .ref g0), (1, .int (nI i)), (2, .long (lenO fa qA qB msa msb i)), (4, .int (oI (mgg (mdo td mam moh (mlo i) (mdr i) (lenO fa qA qB msa msb i)) mar r))), (5, .int (nI (r + 1))), (6, .int (nI 0))]) rfl ?_
                      refine g_goto C dX7_gauge_151 38 (by decide) ?_
                      refine g_lv [0, 1, 2, 3, 4] (lv' := [(0, .ref g0), (1, .int (nI i)), (2, .long (lenO fa qA qB msa msb i)), (4, .int (oI (mgg (mdo td mam moh (mlo i) (mdr i) (lenO fa qA qB msa msb i)) mar r))), (5, .int (nI (r + 1)))]) rfl ?_
                      have hpr : (mdo td mam moh (mlo i) (mdr i) (lenO fa qA qB msa msb i)) r = false := by simp [mdo, c58, c74, c104]
                      rw [show mgg (mdo td mam moh (mlo i) (mdr i) (lenO fa qA qB msa msb i)) mar r = mgg (mdo td mam moh (mlo i) (mdr i) (lenO fa qA qB msa msb i)) mar (r + 1) from by rw [show mgg (mdo td mam moh (mlo i) (mdr i) (lenO fa qA qB msa msb i)) mar (r + 1) = (match mgg (mdo td mam moh (mlo i) (mdr i) (lenO fa qA qB msa msb i)) mar r with | none => if (mdo td mam moh (mlo i) (mdr i) (lenO fa qA qB msa msb i)) r = true then some r else none | some b => if (mdo td mam moh (mlo i) (mdr i) (lenO fa qA qB msa msb i)) r = true ∧ mar r < mar b then some r else some b) from rfl]; cases mgg (mdo td mam moh (mlo i) (mdr i) (lenO fa qA qB msa msb i)) mar r with | none => simp [hpr] | some j => simp [hpr]]
                      exact hloop_ih (r + 1) (by omega) (by omega) (Or.inl c47)
                    · exact absurd c117 (by omega)
                  · refine g_iconst (v := nI 1) C dX7_gauge_108 109 rfl (by decide) ?_
                    refine g_goto C dX7_gauge_109 113 (by decide) ?_
                    refine g_istore C dX7_gauge_113 115 rfl (by decide) [1, 2, 3, 4, 5, 0] (lv' := [(0, .ref g0), (1, .int (nI i)), (2, .long (lenO fa qA qB msa msb i)), (4, .int (oI (mgg (mdo td mam moh (mlo i) (mdr i) (lenO fa qA qB msa msb i)) mar r))), (5, .int (nI r)), (6, .int (nI 1))]) rfl ?_
                    refine g_iload C dX7_gauge_115 117 rfl rfl ?_
                    refine g_if_eq_n C dX7_gauge_117 148 120 (by decide) rfl (by omega) (fun c117 => ?_) (fun c117 => ?_)
                    · exact absurd c117 (by omega)
                    · cases hmg : mgg (mdo td mam moh (mlo i) (mdr i) (lenO fa qA qB msa msb i)) mar r with
                      | none =>
                        rw [show oI none = -1 from rfl]
                        refine g_iload C dX7_gauge_120 122 rfl rfl ?_
                        refine g_iconst (v := -1) C dX7_gauge_122 123 rfl (by decide) ?_
                        refine g_icmp_eq C dX7_gauge_123 144 126 (by decide) rfl (fun c123 => ?_) (fun c123 => ?_)
                        · refine g_iload C dX7_gauge_144 146 rfl rfl ?_
                          refine g_istore C dX7_gauge_146 148 rfl (by decide) [1, 2, 3, 0, 4, 5] (lv' := [(0, .ref g0), (1, .int (nI i)), (2, .long (lenO fa qA qB msa msb i)), (4, .int (nI r)), (5, .int (nI r)), (6, .int (nI 1))]) rfl ?_
                          refine g_iinc (v := nI (r + 1)) C dX7_gauge_148 151 rfl rfl (nI_add r 1) (by decide) [1, 2, 3, 4, 0, 5] (lv' := [(0, .ref g0), (1, .int (nI i)), (2, .long (lenO fa qA qB msa msb i)), (4, .int (nI r)), (5, .int (nI (r + 1))), (6, .int (nI 1))]) rfl ?_
                          refine g_goto C dX7_gauge_151 38 (by decide) ?_
                          refine g_lv [0, 1, 2, 3, 4] (lv' := [(0, .ref g0), (1, .int (nI i)), (2, .long (lenO fa qA qB msa msb i)), (4, .int (nI r)), (5, .int (nI (r + 1)))]) rfl ?_
                          have hpr : (mdo td mam moh (mlo i) (mdr i) (lenO fa qA qB msa msb i)) r = true := by simp [mdo, c58, c74, c104]
                          rw [show nI r = oI (mgg (mdo td mam moh (mlo i) (mdr i) (lenO fa qA qB msa msb i)) mar (r + 1)) from by simp [mgg, hmg, hpr]; rfl]
                          exact hloop_ih (r + 1) (by omega) (by omega) (Or.inl c47)
                        · exact absurd rfl c123
                      | some j =>
                        rw [show oI (some j) = nI j from rfl]
                        have hj := mgg_lt hmg
                        refine g_iload C dX7_gauge_120 122 rfl rfl ?_
                        refine g_iconst (v := -1) C dX7_gauge_122 123 rfl (by decide) ?_
                        refine g_icmp_eq C dX7_gauge_123 144 126 (by decide) rfl (fun c123 => ?_) (fun c123 => ?_)
                        · exact absurd c123 (nI_m1 (by omega))
                        · refine g_aload_n C dX7_gauge_126 127 rfl rfl ?_
                          refine g_get C iw_X7_gauge_X7 0 rfl rfl 17 (by decide) (by decide +kernel) rfl rfl dX7_gauge_127 130 rfl ?_
                          refine g_iload C dX7_gauge_130 132 rfl rfl ?_
                          refine g_lald C 7 1 rfl rfl r rfl (by omega) (by decide) dX7_gauge_132 133 rfl ?_
                          refine g_aload_n C dX7_gauge_133 134 rfl rfl ?_
                          refine g_get C iw_X7_gauge_X7 0 rfl rfl 17 (by decide) (by decide +kernel) rfl rfl dX7_gauge_134 137 rfl ?_
                          refine g_iload C dX7_gauge_137 139 rfl rfl ?_
                          refine g_lald C 7 1 rfl rfl j rfl (by omega) (by decide) dX7_gauge_139 140 rfl ?_
                          refine g_lc_ge C dX7_gauge_140 141 rfl dX7_gauge_141 148 144 (by decide) rfl (fun c140 => ?_) (fun c140 => ?_)
                          · refine g_iinc (v := nI (r + 1)) C dX7_gauge_148 151 rfl rfl (nI_add r 1) (by decide) [1, 2, 3, 4, 0, 5] (lv' := [(0, .ref g0), (1, .int (nI i)), (2, .long (lenO fa qA qB msa msb i)), (4, .int (nI j)), (5, .int (nI (r + 1))), (6, .int (nI 1))]) rfl ?_
                            refine g_goto C dX7_gauge_151 38 (by decide) ?_
                            refine g_lv [0, 1, 2, 3, 4] (lv' := [(0, .ref g0), (1, .int (nI i)), (2, .long (lenO fa qA qB msa msb i)), (4, .int (nI j)), (5, .int (nI (r + 1)))]) rfl ?_
                            have hpr : (mdo td mam moh (mlo i) (mdr i) (lenO fa qA qB msa msb i)) r = true := by simp [mdo, c58, c74, c104]
                            rw [show nI j = oI (mgg (mdo td mam moh (mlo i) (mdr i) (lenO fa qA qB msa msb i)) mar (r + 1)) from by simp [mgg, hmg, hpr, Int64.not_lt.mpr c140]; rfl]
                            exact hloop_ih (r + 1) (by omega) (by omega) (Or.inl c47)
                          · refine g_iload C dX7_gauge_144 146 rfl rfl ?_
                            refine g_istore C dX7_gauge_146 148 rfl (by decide) [1, 2, 3, 0, 4, 5] (lv' := [(0, .ref g0), (1, .int (nI i)), (2, .long (lenO fa qA qB msa msb i)), (4, .int (nI r)), (5, .int (nI r)), (6, .int (nI 1))]) rfl ?_
                            refine g_iinc (v := nI (r + 1)) C dX7_gauge_148 151 rfl rfl (nI_add r 1) (by decide) [1, 2, 3, 4, 0, 5] (lv' := [(0, .ref g0), (1, .int (nI i)), (2, .long (lenO fa qA qB msa msb i)), (4, .int (nI r)), (5, .int (nI (r + 1))), (6, .int (nI 1))]) rfl ?_
                            refine g_goto C dX7_gauge_151 38 (by decide) ?_
                            refine g_lv [0, 1, 2, 3, 4] (lv' := [(0, .ref g0), (1, .int (nI i)), (2, .long (lenO fa qA qB msa msb i)), (4, .int (nI r)), (5, .int (nI (r + 1)))]) rfl ?_
                            have hpr : (mdo td mam moh (mlo i) (mdr i) (lenO fa qA qB msa msb i)) r = true := by simp [mdo, c58, c74, c104]
                            rw [show nI r = oI (mgg (mdo td mam moh (mlo i) (mdr i) (lenO fa qA qB msa msb i)) mar (r + 1)) from by simp [mgg, hmg, hpr, Int64.not_le.mp c140]; rfl]
                            exact hloop_ih (r + 1) (by omega) (by omega) (Or.inl c47)
      exact hloop (10 + 1) 0 (by omega) (by omega) (Or.inr rfl)
    · exact absurd c21 (by omega)
