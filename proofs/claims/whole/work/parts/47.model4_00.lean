theorem iw_X7_colour_X7 : ∀ w ∈ wsX70, w ∈ wsX7_colour := by decide +kernel
set_option maxHeartbeats 4000000 in
set_option maxRecDepth 100000 in
theorem c_X7_colour (l : Launch) (D : va_G) (cI cJ cB cZ : ClassId) (sz : Nat) (g0 : Nat) (g1 : Nat) (g2 : Nat) (g3 : Nat) (g4 : Nat) (g5 : Nat) (g6 : Nat) (g7 : Nat) (g8 : Nat) (g9 : Nat) (g10 : Nat) (g11 : Nat) (g12 : Nat) (g13 : Nat) (g14 : Nat) (g15 : Nat) (g16 : Nat) (g17 : Nat) (g18 : Nat) (g19 : Nat) (g20 : Nat) (g21 : Nat) (g22 : Nat) (th : Nat) (mn : Nat) (mb : Nat) (mw : Nat) (mz : Nat) (mv : Nat) (my : Nat) (msa : Int64) (msb : Int64) (wt : Int32) (wr : Int32) (fo : Int32) (qA : Nat → Nat) (qB : Nat → Nat) (gp : Nat → Nat) (x : Int32) (hmw : mw ≤ 24) (hA : ∀ k, k < mw → qA k < 256) (hB : ∀ k, k < mw → qB k < 256) : Met l yX7_colour wsX7_colour ({ frames := 1, cells := 0, slots := 0, locals := 26 }) (va_Pc [.ref g0, .int x] (pW D (TY cI cJ cB cZ) [(g0, .inr (11, [.int (nI th), .int (nI mn), .ref g1, .ref g2, .int (nI mb), .ref g3, .ref g4, .ref g5, .int (nI mw), .ref g6, .ref g7, .ref g8, .ref g9, .ref g10, .long msa, .long msb, .ref g11, .ref g12, .ref g13, .ref g14, .ref g15, .int (nI mz), .ref g16, .ref g17, .ref g18, .int (nI mv), .ref g19, .int (nI my), .ref g20, .ref g21, .ref g22, .int wt, .int wr, .int fo])), (g6, .inl (cI, 24, .inl (fun jj => nI (qA jj)))), (g7, .inl (cI, 24, .inl (fun jj => nI (qB jj)))), (g18, .inl (cI, 24, .inl (fun jj => nI (gp jj))))] (fun _ => True) sz)) (va_Qi (fun (rv : Int32) (u : Nat × (Nat → Nat)) => (u.1 = 1 ∧ ¬ inR x mw ∧ u.2 = gp) ∨ (u.1 = 0 ∧ inR x mw ∧ rv = nI (mcol qA qB gp (cN x + 1) (cN x)) ∧ u.2 = mcol qA qB gp (cN x + 1))) (qW D (TY cI cJ cB cZ) (va_A [(g0, .inr (11, [.int (nI th), .int (nI mn), .ref g1, .ref g2, .int (nI mb), .ref g3, .ref g4, .ref g5, .int (nI mw), .ref g6, .ref g7, .ref g8, .ref g9, .ref g10, .long msa, .long msb, .ref g11, .ref g12, .ref g13, .ref g14, .ref g15, .int (nI mz), .ref g16, .ref g17, .ref g18, .int (nI mv), .ref g19, .int (nI my), .ref g20, .ref g21, .ref g22, .int wt, .int wr, .int fo])), (g6, .inl (cI, 24, .inl (fun jj => nI (qA jj)))), (g7, .inl (cI, 24, .inl (fun jj => nI (qB jj)))), (g18, .inl (cI, 24, .inl (fun jj => nI (gp jj))))] sz) (fun u => [(g0, .inr (11, [.int (nI u.1), .int (nI mn), .ref g1, .ref g2, .int (nI mb), .ref g3, .ref g4, .ref g5, .int (nI mw), .ref g6, .ref g7, .ref g8, .ref g9, .ref g10, .long msa, .long msb, .ref g11, .ref g12, .ref g13, .ref g14, .ref g15, .int (nI mz), .ref g16, .ref g17, .ref g18, .int (nI mv), .ref g19, .int (nI my), .ref g20, .ref g21, .ref g22, .int wt, .int wr, .int fo])), (g6, .inl (cI, 24, .inl (fun jj => nI (qA jj)))), (g7, .inl (cI, 24, .inl (fun jj => nI (qB jj)))), (g18, .inl (cI, 24, .inl (fun jj => nI (u.2 jj))))])) (va_A [(g0, .inr (11, [.int (nI th), .int (nI mn), .ref g1, .ref g2, .int (nI mb), .ref g3, .ref g4, .ref g5, .int (nI mw), .ref g6, .ref g7, .ref g8, .ref g9, .ref g10, .long msa, .long msb, .ref g11, .ref g12, .ref g13, .ref g14, .ref g15, .int (nI mz), .ref g16, .ref g17, .ref g18, .int (nI mv), .ref g19, .int (nI my), .ref g20, .ref g21, .ref g22, .int wt, .int wr, .int fo])), (g6, .inl (cI, 24, .inl (fun jj => nI (qA jj)))), (g7, .inl (cI, 24, .inl (fun jj => nI (qB jj)))), (g18, .inl (cI, 24, .inl (fun jj => nI (gp jj))))] sz)) 0 0 (va_A [(g0, .inr (11, [.int (nI th), .int (nI mn), .ref g1, .ref g2, .int (nI mb), .ref g3, .ref g4, .ref g5, .int (nI mw), .ref g6, .ref g7, .ref g8, .ref g9, .ref g10, .long msa, .long msb, .ref g11, .ref g12, .ref g13, .ref g14, .ref g15, .int (nI mz), .ref g16, .ref g17, .ref g18, .int (nI mv), .ref g19, .int (nI my), .ref g20, .ref g21, .ref g22, .int wt, .int wr, .int fo])), (g6, .inl (cI, 24, .inl (fun jj => nI (qA jj)))), (g7, .inl (cI, 24, .inl (fun jj => nI (qB jj)))), (g18, .inl (cI, 24, .inl (fun jj => nI (gp jj))))] sz) := by
  refine gx_met RX7 rfl (by decide) rfl (Nat.le_of_ble_eq_true rfl) ?_
  intro X hl hDx hAx C hQ hXP hsz hin
  subst hl; subst hDx
  rw [← hAx] at hQ
  refine g_lv [0, 1] (lv' := [(0, .ref g0), (1, .int x)]) rfl ?_
  refine g_aload_n C dX7_colour_0 1 rfl rfl ?_
  refine g_aload_n C dX7_colour_1 2 rfl rfl ?_
  refine g_iload_n C dX7_colour_2 3 rfl rfl ?_
  refine g_callVi (ci := 11) (q0 := 0) (As := [.int x]) (rest := [.ref g0]) (wr := [(g6, .inl (cI, 24, .inl (fun jj => nI (qA jj)))), (g7, .inl (cI, 24, .inl (fun jj => nI (qB jj)))), (g18, .inl (cI, 24, .inl (fun jj => nI (gp jj))))]) (ws' := fun (_ : Unit) => [(g0, .inr (11, [.int (nI th), .int (nI mn), .ref g1, .ref g2, .int (nI mb), .ref g3, .ref g4, .ref g5, .int (nI mw), .ref g6, .ref g7, .ref g8, .ref g9, .ref g10, .long msa, .long msb, .ref g11, .ref g12, .ref g13, .ref g14, .ref g15, .int (nI mz), .ref g16, .ref g17, .ref g18, .int (nI mv), .ref g19, .int (nI my), .ref g20, .ref g21, .ref g22, .int wt, .int wr, .int fo])), (g6, .inl (cI, 24, .inl (fun jj => nI (qA jj)))), (g7, .inl (cI, 24, .inl (fun jj => nI (qB jj)))), (g18, .inl (cI, 24, .inl (fun jj => nI (gp jj))))]) C (fun sz => c_X7_isWire _ _ cI cJ cB cZ sz g0 g1 g2 g3 g4 g5 g6 g7 g8 g9 g10 g11 g12 g13 g14 g15 g16 g17 g18 g19 g20 g21 g22 th mn mb mw mz mv my msa msb wt wr fo x ) gx_XP0 1 gX7_colour_X7_isWire rfl rfl rfl (by decide +kernel) ⟨Nat.le_of_ble_eq_true rfl, Nat.le_of_ble_eq_true rfl⟩ rfl rfl [0] [1, 2, 3] [3, 0, 1, 2] rfl (by decide) rfl (by decide) (by decide) (fun _ => rfl) (by decide) rfl rfl (Nat.le_of_ble_eq_true rfl) dX7_colour_3 ⟨Nat.le_of_ble_eq_true rfl, Nat.le_of_ble_eq_true rfl⟩ 6 rfl (eqk ?_)
  refine g_if_eq_b C dX7_colour_6 13 9 (by decide) rfl (fun c6 => ?_) (fun c6 => ?_)
  · refine g_iconst (v := nI 1) C dX7_colour_13 14 rfl (by decide) ?_
    refine g_put C (ty := .int) iw_X7_colour_X7 tyX7 tyX7_ok nmX7 0 rfl rfl 0 (by decide) (by decide +kernel) rfl rfl (by decide +kernel) rfl rfl (Nat.le_of_ble_eq_true rfl) dX7_colour_14 17 rfl (ws' := [(g0, .inr (11, [.int (nI 1), .int (nI mn), .ref g1, .ref g2, .int (nI mb), .ref g3, .ref g4, .ref g5, .int (nI mw), .ref g6, .ref g7, .ref g8, .ref g9, .ref g10, .long msa, .long msb, .ref g11, .ref g12, .ref g13, .ref g14, .ref g15, .int (nI mz), .ref g16, .ref g17, .ref g18, .int (nI mv), .ref g19, .int (nI my), .ref g20, .ref g21, .ref g22, .int wt, .int wr, .int fo])), (g6, .inl (cI, 24, .inl (fun jj => nI (qA jj)))), (g7, .inl (cI, 24, .inl (fun jj => nI (qB jj)))), (g18, .inl (cI, 24, .inl (fun jj => nI (gp jj))))]) rfl ?_
    refine g_aload_n C dX7_colour_17 18 rfl rfl ?_
    refine g_get C iw_X7_colour_X7 0 rfl rfl 0 (by decide) (by decide +kernel) rfl rfl dX7_colour_18 21 rfl ?_
    refine g_if_eq_n C dX7_colour_21 26 24 (by decide) rfl (by omega) (fun c21 => ?_) (fun c21 => ?_)
    · exact absurd c21 (by omega)
    · refine g_iconst (v := nI 0) C dX7_colour_24 25 rfl (by decide) ?_
      exact g_iret C hQ (Nat.le_of_ble_eq_true rfl) (Nat.le_of_ble_eq_true rfl) dX7_colour_25 (1, gp) (Or.inl ⟨rfl, inB_f (by omega) c6, rfl⟩) (by first | (dsimp only; done) | rfl)
  · refine g_iconst (v := nI 0) C dX7_colour_9 10 rfl (by decide) ?_
    refine g_goto C dX7_colour_10 14 (by decide) ?_
    refine g_put C (ty := .int) iw_X7_colour_X7 tyX7 tyX7_ok nmX7 0 rfl rfl 0 (by decide) (by decide +kernel) rfl rfl (by decide +kernel) rfl rfl (Nat.le_of_ble_eq_true rfl) dX7_colour_14 17 rfl (ws' := [(g0, .inr (11, [.int (nI 0), .int (nI mn), .ref g1, .ref g2, .int (nI mb), .ref g3, .ref g4, .ref g5, .int (nI mw), .ref g6, .ref g7, .ref g8, .ref g9, .ref g10, .long msa, .long msb, .ref g11, .ref g12, .ref g13, .ref g14, .ref g15, .int (nI mz), .ref g16, .ref g17, .ref g18, .int (nI mv), .ref g19, .int (nI my), .ref g20, .ref g21, .ref g22, .int wt, .int wr, .int fo])), (g6, .inl (cI, 24, .inl (fun jj => nI (qA jj)))), (g7, .inl (cI, 24, .inl (fun jj => nI (qB jj)))), (g18, .inl (cI, 24, .inl (fun jj => nI (gp jj))))]) rfl ?_
    refine g_aload_n C dX7_colour_17 18 rfl rfl ?_
    refine g_get C iw_X7_colour_X7 0 rfl rfl 0 (by decide) (by decide +kernel) rfl rfl dX7_colour_18 21 rfl ?_
    refine g_if_eq_n C dX7_colour_21 26 24 (by decide) rfl (by omega) (fun c21 => ?_) (fun c21 => ?_)
    · obtain ⟨i, hi, rfl⟩ := inB_t (by omega) c6
      refine g_iconst (v := nI 0) C dX7_colour_26 27 rfl (by decide) ?_
      refine g_istore_n C dX7_colour_27 28 rfl (by decide) [1, 2, 0] (lv' := [(0, .ref g0), (1, .int (nI i)), (2, .int (nI 0))]) rfl ?_
      have hvs : ∀ (fuel v : Nat), v ≤ (i + 1) → (i + 1) + 1 ≤ v + fuel → gx X 0 0 [(g0, .inr (11, [.int (nI 0), .int (nI mn), .ref g1, .ref g2, .int (nI mb), .ref g3, .ref g4, .ref g5, .int (nI mw), .ref g6, .ref g7, .ref g8, .ref g9, .ref g10, .long msa, .long msb, .ref g11, .ref g12, .ref g13, .ref g14, .ref g15, .int (nI mz), .ref g16, .ref g17, .ref g18, .int (nI mv), .ref g19, .int (nI my), .ref g20, .ref g21, .ref g22, .int wt, .int wr, .int fo])), (g6, .inl (cI, 24, .inl (fun jj => nI (qA jj)))), (g7, .inl (cI, 24, .inl (fun jj => nI (qB jj)))), (g18, .inl (cI, 24, .inl (fun jj => nI ((mcol qA qB gp v) jj))))] 28 [(0, .ref g0), (1, .int (nI i)), (2, .int (nI v))] [] := by
        intro fuel
        induction fuel with
        | zero => intro v h1 h2; exact absurd h2 (by omega)
        | succ fuel hvs_ih =>
          intro v hle hfu
          refine g_iload_n C dX7_colour_28 29 rfl rfl ?_
          refine g_iload_n C dX7_colour_29 30 rfl rfl ?_
          refine g_icmp_gt_n C dX7_colour_30 109 33 (by decide) rfl (by omega) (by omega) (fun c30 => ?_) (fun c30 => ?_)
          · have e_v : i + 1 = v := by omega
            subst e_v
            refine g_aload_n C dX7_colour_109 110 rfl rfl ?_
            refine g_get C iw_X7_colour_X7 0 rfl rfl 24 (by decide) (by decide +kernel) rfl rfl dX7_colour_110 113 rfl ?_
            refine g_iload_n C dX7_colour_113 114 rfl rfl ?_
            refine g_iald C 3 0 rfl rfl i rfl (by omega) (by decide) dX7_colour_114 115 rfl ?_
            exact g_iret C hQ (Nat.le_of_ble_eq_true rfl) (Nat.le_of_ble_eq_true rfl) dX7_colour_115 (0, mcol qA qB gp (i + 1)) (Or.inr ⟨rfl, ⟨i, hi, rfl⟩, by rw [cN_nI (by omega)], by rw [cN_nI (by omega)]⟩) (by first | (dsimp only; done) | rfl)
          · refine g_iconst (v := nI 0) C dX7_colour_33 34 rfl (by decide) ?_
            refine g_istore_n C dX7_colour_34 35 rfl (by decide) [1, 2, 3, 0] (lv' := [(0, .ref g0), (1, .int (nI i)), (2, .int (nI v)), (3, .int (nI 0))]) rfl ?_
            refine g_iconst (v := nI 0) C dX7_colour_35 36 rfl (by decide) ?_
            refine g_istore C dX7_colour_36 38 rfl (by decide) [1, 2, 3, 4, 0] (lv' := [(0, .ref g0), (1, .int (nI i)), (2, .int (nI v)), (3, .int (nI 0)), (4, .int (nI 0))]) rfl ?_
            have hus : ∀ (fuel u : Nat), u ≤ v → v + 1 ≤ u + fuel → gx X 0 0 [(g0, .inr (11, [.int (nI 0), .int (nI mn), .ref g1, .ref g2, .int (nI mb), .ref g3, .ref g4, .ref g5, .int (nI mw), .ref g6, .ref g7, .ref g8, .ref g9, .ref g10, .long msa, .long msb, .ref g11, .ref g12, .ref g13, .ref g14, .ref g15, .int (nI mz), .ref g16, .ref g17, .ref g18, .int (nI mv), .ref g19, .int (nI my), .ref g20, .ref g21, .ref g22, .int wt, .int wr, .int fo])), (g6, .inl (cI, 24, .inl (fun jj => nI (qA jj)))), (g7, .inl (cI, 24, .inl (fun jj => nI (qB jj)))), (g18, .inl (cI, 24, .inl (fun jj => nI ((mcol qA qB gp v) jj))))] 38 [(0, .ref g0), (1, .int (nI i)), (2, .int (nI v)), (3, .int (mbit qA qB (mcol qA qB gp v) v u)), (4, .int (nI u))] [] := by
              intro fuel
              induction fuel with
              | zero => intro u h1 h2; exact absurd h2 (by omega)
              | succ fuel hus_ih =>
                intro u hle hfu
                refine g_iload C dX7_colour_38 40 rfl rfl ?_
                refine g_iload_n C dX7_colour_40 41 rfl rfl ?_
                refine g_icmp_ge_n C dX7_colour_41 76 44 (by decide) rfl (by omega) (by omega) (fun c41 => ?_) (fun c41 => ?_)
                · have e_u : v = u := by omega
                  subst e_u
                  refine g_iconst (v := nI 0) C dX7_colour_76 77 rfl (by decide) ?_
                  refine g_istore C dX7_colour_77 79 rfl (by decide) [1, 2, 3, 4, 0] (lv' := [(0, .ref g0), (1, .int (nI i)), (2, .int (nI v)), (3, .int (mbit qA qB (mcol qA qB gp v) v v)), (4, .int (nI 0))]) rfl ?_
                  have hfr : bt (mbit qA qB (mcol qA qB gp v) v v) v = false := mbit_hi (by omega) (fun k hk => by have := mcol_le qA qB gp v k (by omega) hk; omega)
                  have hc : ∀ (fuel c : Nat), c ≤ v → v + 1 ≤ c + fuel → wfind (fun c => ! bt (mbit qA qB (mcol qA qB gp v) v v) c) c = none → gx X 0 0 [(g0, .inr (11, [.int (nI 0), .int (nI mn), .ref g1, .ref g2, .int (nI mb), .ref g3, .ref g4, .ref g5, .int (nI mw), .ref g6, .ref g7, .ref g8, .ref g9, .ref g10, .long msa, .long msb, .ref g11, .ref g12, .ref g13, .ref g14, .ref g15, .int (nI mz), .ref g16, .ref g17, .ref g18, .int (nI mv), .ref g19, .int (nI my), .ref g20, .ref g21, .ref g22, .int wt, .int wr, .int fo])), (g6, .inl (cI, 24, .inl (fun jj => nI (qA jj)))), (g7, .inl (cI, 24, .inl (fun jj => nI (qB jj)))), (g18, .inl (cI, 24, .inl (fun jj => nI ((mcol qA qB gp v) jj))))] 79 [(0, .ref g0), (1, .int (nI i)), (2, .int (nI v)), (3, .int (mbit qA qB (mcol qA qB gp v) v v)), (4, .int (nI c))] [] := by
                    intro fuel
                    induction fuel with
                    | zero => intro c h1 h2; exact absurd h2 (by omega)
                    | succ fuel hc_ih =>
                      intro c hcv hfu9 hnf
                      refine g_iload_n C dX7_colour_79 80 rfl rfl ?_
                      refine g_iload C dX7_colour_80 82 rfl rfl ?_
                      refine g_ishr C dX7_colour_82 83 rfl ?_
                      refine g_iconst (v := nI 1) C dX7_colour_83 84 rfl (by decide) ?_
                      refine g_iand C dX7_colour_84 85 rfl ?_
                      refine g_iconst (v := nI 1) C dX7_colour_85 86 rfl (by decide) ?_
                      refine g_icmp_ne C dX7_colour_86 95 89 (by decide) rfl (fun c86 => ?_) (fun c86 => ?_)
                      · have hbt : bt (mbit qA qB (mcol qA qB gp v) v v) c = false := by cases e9 : bt (mbit qA qB (mcol qA qB gp v) v v) c; rfl; exact absurd ((hb1_iff (by omega)).mpr e9) c86
                        have ec : nI c = nI (lof (mbit qA qB (mcol qA qB gp v) v v) (v + 1)) := lof_at hnf hbt (by omega)
                        rw [ec]
                        refine g_aload_n C dX7_colour_95 96 rfl rfl ?_
                        refine g_get C iw_X7_colour_X7 0 rfl rfl 24 (by decide) (by decide +kernel) rfl rfl dX7_colour_96 99 rfl ?_
                        refine g_iload_n C dX7_colour_99 100 rfl rfl ?_
                        refine g_iload C dX7_colour_100 102 rfl rfl ?_
                        refine g_iast C 3 0 rfl rfl v rfl (by omega) (by decide) dX7_colour_102 103 rfl (ws' := [(g0, .inr (11, [.int (nI 0), .int (nI mn), .ref g1, .ref g2, .int (nI mb), .ref g3, .ref g4, .ref g5, .int (nI mw), .ref g6, .ref g7, .ref g8, .ref g9, .ref g10, .long msa, .long msb, .ref g11, .ref g12, .ref g13, .ref g14, .ref g15, .int (nI mz), .ref g16, .ref g17, .ref g18, .int (nI mv), .ref g19, .int (nI my), .ref g20, .ref g21, .ref g22, .int wt, .int wr, .int fo])), (g6, .inl (cI, 24, .inl (fun jj => nI (qA jj)))), (g7, .inl (cI, 24, .inl (fun jj => nI (qB jj)))), (g18, .inl (cI, 24, .inl (fun jj => nI ((updN (mcol qA qB gp v) v (lof (mbit qA qB (mcol qA qB gp v) v v) (v + 1))) jj))))]) (by rw [upd_nI]; rfl) ?_
                        refine g_iinc (v := nI (v + 1)) C dX7_colour_103 106 rfl rfl (nI_add v 1) (by decide) [1, 2, 0, 3, 4] (lv' := [(0, .ref g0), (1, .int (nI i)), (2, .int (nI (v + 1))), (3, .int (mbit qA qB (mcol qA qB gp v) v v)), (4, .int (nI (lof (mbit qA qB (mcol qA qB gp v) v v) (v + 1))))]) rfl ?_
                        refine g_goto C dX7_colour_106 28 (by decide) ?_
                        refine g_lv [0, 1, 2] (lv' := [(0, .ref g0), (1, .int (nI i)), (2, .int (nI (v + 1)))]) rfl ?_
                        rw [show updN (mcol qA qB gp v) v (lof (mbit qA qB (mcol qA qB gp v) v v) (v + 1)) = mcol qA qB gp (v + 1) from rfl]
                        exact hvs_ih (v + 1) (by omega) (by omega)
                      · have hbt : bt (mbit qA qB (mcol qA qB gp v) v v) c = true := (hb1_iff (by omega)).mp c86
                        refine g_iinc (v := nI (c + 1)) C dX7_colour_89 92 rfl rfl (nI_add c 1) (by decide) [1, 2, 3, 4, 0] (lv' := [(0, .ref g0), (1, .int (nI i)), (2, .int (nI v)), (3, .int (mbit qA qB (mcol qA qB gp v) v v)), (4, .int (nI (c + 1)))]) rfl ?_
                        refine g_goto C dX7_colour_92 79 (by decide) ?_
                        exact hc_ih (c + 1) (by rcases Nat.lt_or_ge c v with q | q; omega; rw [show c = v by omega, hfr] at hbt; cases hbt) (by omega) (wfind_next hnf (by simp [hbt]))
                  exact hc (v + 1) 0 (by omega) (by omega) rfl
                · have h1 := hA u (by omega)
                  have h2 := hB u (by omega)
                  have h3 := hA v (by omega)
                  have h4 := hB v (by omega)
                  have h5 := mcol_le qA qB gp v u (by omega) (by omega)
                  refine g_aload_n C dX7_colour_44 45 rfl rfl ?_
                  refine g_iload C dX7_colour_45 47 rfl rfl ?_
                  refine g_iload_n C dX7_colour_47 48 rfl rfl ?_
                  refine g_callVi (ci := 11) (q0 := 0) (As := [.int (nI u), .int (nI v)]) (rest := []) (wr := [(g18, .inl (cI, 24, .inl (fun jj => nI ((mcol qA qB gp v) jj))))]) (ws' := fun (_ : Unit) => [(g0, .inr (11, [.int (nI 0), .int (nI mn), .ref g1, .ref g2, .int (nI mb), .ref g3, .ref g4, .ref g5, .int (nI mw), .ref g6, .ref g7, .ref g8, .ref g9, .ref g10, .long msa, .long msb, .ref g11, .ref g12, .ref g13, .ref g14, .ref g15, .int (nI mz), .ref g16, .ref g17, .ref g18, .int (nI mv), .ref g19, .int (nI my), .ref g20, .ref g21, .ref g22, .int wt, .int wr, .int fo])), (g6, .inl (cI, 24, .inl (fun jj => nI (qA jj)))), (g7, .inl (cI, 24, .inl (fun jj => nI (qB jj)))), (g18, .inl (cI, 24, .inl (fun jj => nI ((mcol qA qB gp v) jj))))]) C (fun sz => c_X7_meet _ _ cI cJ cB cZ sz g0 g1 g2 g3 g4 g5 g6 g7 g8 g9 g10 g11 g12 g13 g14 g15 g16 g17 g18 g19 g20 g21 g22 0 mn mb mw mz mv my msa msb wt wr fo qA qB u v (by omega) (by omega) (by omega) (by omega) (by omega) (by omega)) gx_XP0 2 gX7_colour_X7_meet rfl rfl rfl (by decide +kernel) ⟨Nat.le_of_ble_eq_true rfl, Nat.le_of_ble_eq_true rfl⟩ rfl rfl [0, 1, 2] [3] [1, 2, 3, 0] rfl (by decide) rfl (by decide) (by decide) (fun _ => rfl) (by decide) rfl rfl (Nat.le_of_ble_eq_true rfl) dX7_colour_48 ⟨Nat.le_of_ble_eq_true rfl, Nat.le_of_ble_eq_true rfl⟩ 51 rfl (eqk ?_)
                  refine g_if_eq_b C dX7_colour_51 68 54 (by decide) rfl (fun c51 => ?_) (fun c51 => ?_)
                  · refine g_iload_n C dX7_colour_68 69 rfl rfl ?_
                    refine g_istore_n C dX7_colour_69 70 rfl (by decide) [1, 2, 3, 0, 4] (lv' := [(0, .ref g0), (1, .int (nI i)), (2, .int (nI v)), (3, .int (mbit qA qB (mcol qA qB gp v) v u)), (4, .int (nI u))]) rfl ?_
                    refine g_iinc (v := nI (u + 1)) C dX7_colour_70 73 rfl rfl (nI_add u 1) (by decide) [1, 2, 3, 4, 0] (lv' := [(0, .ref g0), (1, .int (nI i)), (2, .int (nI v)), (3, .int (mbit qA qB (mcol qA qB gp v) v u)), (4, .int (nI (u + 1)))]) rfl ?_
                    refine g_goto C dX7_colour_73 38 (by decide) ?_
                    rw [show mbit qA qB (mcol qA qB gp v) v u = mbit qA qB (mcol qA qB gp v) v (u + 1) from by simp only [mbit]; rw [if_neg (by rw [c51]; decide)]]
                    exact hus_ih (u + 1) (by omega) (by omega)
                  · refine g_iload_n C dX7_colour_54 55 rfl rfl ?_
                    refine g_iconst (v := nI 1) C dX7_colour_55 56 rfl (by decide) ?_
                    refine g_aload_n C dX7_colour_56 57 rfl rfl ?_
                    refine g_get C iw_X7_colour_X7 0 rfl rfl 24 (by decide) (by decide +kernel) rfl rfl dX7_colour_57 60 rfl ?_
                    refine g_iload C dX7_colour_60 62 rfl rfl ?_
                    refine g_iald C 3 0 rfl rfl u rfl (by omega) (by decide) dX7_colour_62 63 rfl ?_
                    refine g_ishl C dX7_colour_63 64 rfl ?_
                    refine g_ior C dX7_colour_64 65 rfl ?_
                    refine g_goto C dX7_colour_65 69 (by decide) ?_
                    refine g_istore_n C dX7_colour_69 70 rfl (by decide) [1, 2, 3, 0, 4] (lv' := [(0, .ref g0), (1, .int (nI i)), (2, .int (nI v)), (3, .int ((mbit qA qB (mcol qA qB gp v) v u) ||| ((nI 1) <<< (nI ((mcol qA qB gp v) u) &&& 31)))), (4, .int (nI u))]) rfl ?_
                    refine g_iinc (v := nI (u + 1)) C dX7_colour_70 73 rfl rfl (nI_add u 1) (by decide) [1, 2, 3, 4, 0] (lv' := [(0, .ref g0), (1, .int (nI i)), (2, .int (nI v)), (3, .int ((mbit qA qB (mcol qA qB gp v) v u) ||| ((nI 1) <<< (nI ((mcol qA qB gp v) u) &&& 31)))), (4, .int (nI (u + 1)))]) rfl ?_
                    refine g_goto C dX7_colour_73 38 (by decide) ?_
                    rw [show (mbit qA qB (mcol qA qB gp v) v u) ||| ((nI 1) <<< (nI ((mcol qA qB gp v) u) &&& 31)) = mbit qA qB (mcol qA qB gp v) v (u + 1) from by simp only [mbit, if_pos c51]]
                    exact hus_ih (u + 1) (by omega) (by omega)
            exact hus (v + 1) 0 (by omega) (by omega)
      exact hvs ((i + 1) + 1) 0 (by omega) (by omega)
    · exact absurd c21 (by omega)
