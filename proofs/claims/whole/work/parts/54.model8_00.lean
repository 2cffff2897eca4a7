theorem iw_X7_packExactly_X7 : ∀ w ∈ wsX70, w ∈ wsX7_packExactly := by decide +kernel
set_option maxHeartbeats 4000000 in
set_option maxRecDepth 100000 in
theorem c_X7_packExactly (l : Launch) (D : va_G) (cI cJ cB cZ : ClassId) (sz : Nat) (g0 : Nat) (g1 : Nat) (g2 : Nat) (g3 : Nat) (g4 : Nat) (g5 : Nat) (g6 : Nat) (g7 : Nat) (g8 : Nat) (g9 : Nat) (g10 : Nat) (g11 : Nat) (g12 : Nat) (g13 : Nat) (g14 : Nat) (g15 : Nat) (g16 : Nat) (g17 : Nat) (g18 : Nat) (g19 : Nat) (g20 : Nat) (g21 : Nat) (g22 : Nat) (th : Nat) (mn : Nat) (mb : Nat) (mw : Nat) (mz : Nat) (mv : Nat) (my : Nat) (msa : Int64) (msb : Int64) (wt : Int32) (wr : Int32) (fo : Int32) (fa : Nat → Int64) (qA : Nat → Nat) (qB : Nat → Nat) (mr : Nat → Int32) (pk : Nat → Nat) (ti : Nat → Int32) (us : Nat → Int64) (lim : Int64) (N : Nat) (a : Nat → Nat) (hmw : mw ≤ 24) (hA : ∀ k, k < mw → qA k < 256) (hB : ∀ k, k < mw → qB k < 256) (hmy : my ≤ 8) (hm0 : 0 < my) (hpk : ∀ k, k < my → pk k < mw) (hsb : ¬ msb = 0) (hN0 : 0 < N) (hNm : N ≤ my) (hNs : ffz N lim (fun kk => (lenO fa qA qB msa msb) (pk kk)) my = some a) (hlo : ∀ n, 0 < n → n < N → ffz n lim (fun kk => (lenO fa qA qB msa msb) (pk kk)) my = none) : Met l yX7_packExactly wsX7_packExactly ({ frames := 2, cells := 0, slots := 0, locals := 51 }) (va_Pc [.ref g0, .long lim] (pW D (TY cI cJ cB cZ) [(g0, .inr (11, [.int (nI th), .int (nI mn), .ref g1, .ref g2, .int (nI mb), .ref g3, .ref g4, .ref g5, .int (nI mw), .ref g6, .ref g7, .ref g8, .ref g9, .ref g10, .long msa, .long msb, .ref g11, .ref g12, .ref g13, .ref g14, .ref g15, .int (nI mz), .ref g16, .ref g17, .ref g18, .int (nI mv), .ref g19, .int (nI my), .ref g20, .ref g21, .ref g22, .int wt, .int wr, .int fo])), (g2, .inl (cJ, 256, .inr (.inl fa))), (g6, .inl (cI, 24, .inl (fun jj => nI (qA jj)))), (g7, .inl (cI, 24, .inl (fun jj => nI (qB jj)))), (g15, .inl (cI, 24, .inl mr)), (g20, .inl (cI, 24, .inl (fun jj => nI (pk jj)))), (g21, .inl (cI, 24, .inl ti)), (g22, .inl (cJ, 24, .inr (.inl us)))] (fun _ => True) sz)) (va_Qi (fun (rv : Int32) (u : (Nat → Int32) × (Nat → Int64)) => rv = nI N) (qW D (TY cI cJ cB cZ) (va_A [(g0, .inr (11, [.int (nI th), .int (nI mn), .ref g1, .ref g2, .int (nI mb), .ref g3, .ref g4, .ref g5, .int (nI mw), .ref g6, .ref g7, .ref g8, .ref g9, .ref g10, .long msa, .long msb, .ref g11, .ref g12, .ref g13, .ref g14, .ref g15, .int (nI mz), .ref g16, .ref g17, .ref g18, .int (nI mv), .ref g19, .int (nI my), .ref g20, .ref g21, .ref g22, .int wt, .int wr, .int fo])), (g2, .inl (cJ, 256, .inr (.inl fa))), (g6, .inl (cI, 24, .inl (fun jj => nI (qA jj)))), (g7, .inl (cI, 24, .inl (fun jj => nI (qB jj)))), (g15, .inl (cI, 24, .inl mr)), (g20, .inl (cI, 24, .inl (fun jj => nI (pk jj)))), (g21, .inl (cI, 24, .inl ti)), (g22, .inl (cJ, 24, .inr (.inl us)))] sz) (fun u => [(g0, .inr (11, [.int (nI th), .int (nI mn), .ref g1, .ref g2, .int (nI mb), .ref g3, .ref g4, .ref g5, .int (nI mw), .ref g6, .ref g7, .ref g8, .ref g9, .ref g10, .long msa, .long msb, .ref g11, .ref g12, .ref g13, .ref g14, .ref g15, .int (nI mz), .ref g16, .ref g17, .ref g18, .int (nI mv), .ref g19, .int (nI my), .ref g20, .ref g21, .ref g22, .int wt, .int wr, .int fo])), (g2, .inl (cJ, 256, .inr (.inl fa))), (g6, .inl (cI, 24, .inl (fun jj => nI (qA jj)))), (g7, .inl (cI, 24, .inl (fun jj => nI (qB jj)))), (g15, .inl (cI, 24, .inl (kt mr pk a my))), (g20, .inl (cI, 24, .inl (fun jj => nI (pk jj)))), (g21, .inl (cI, 24, .inl u.1)), (g22, .inl (cJ, 24, .inr (.inl u.2)))])) (va_A [(g0, .inr (11, [.int (nI th), .int (nI mn), .ref g1, .ref g2, .int (nI mb), .ref g3, .ref g4, .ref g5, .int (nI mw), .ref g6, .ref g7, .ref g8, .ref g9, .ref g10, .long msa, .long msb, .ref g11, .ref g12, .ref g13, .ref g14, .ref g15, .int (nI mz), .ref g16, .ref g17, .ref g18, .int (nI mv), .ref g19, .int (nI my), .ref g20, .ref g21, .ref g22, .int wt, .int wr, .int fo])), (g2, .inl (cJ, 256, .inr (.inl fa))), (g6, .inl (cI, 24, .inl (fun jj => nI (qA jj)))), (g7, .inl (cI, 24, .inl (fun jj => nI (qB jj)))), (g15, .inl (cI, 24, .inl mr)), (g20, .inl (cI, 24, .inl (fun jj => nI (pk jj)))), (g21, .inl (cI, 24, .inl ti)), (g22, .inl (cJ, 24, .inr (.inl us)))] sz)) 0 0 (va_A [(g0, .inr (11, [.int (nI th), .int (nI mn), .ref g1, .ref g2, .int (nI mb), .ref g3, .ref g4, .ref g5, .int (nI mw), .ref g6, .ref g7, .ref g8, .ref g9, .ref g10, .long msa, .long msb, .ref g11, .ref g12, .ref g13, .ref g14, .ref g15, .int (nI mz), .ref g16, .ref g17, .ref g18, .int (nI mv), .ref g19, .int (nI my), .ref g20, .ref g21, .ref g22, .int wt, .int wr, .int fo])), (g2, .inl (cJ, 256, .inr (.inl fa))), (g6, .inl (cI, 24, .inl (fun jj => nI (qA jj)))), (g7, .inl (cI, 24, .inl (fun jj => nI (qB jj)))), (g15, .inl (cI, 24, .inl mr)), (g20, .inl (cI, 24, .inl (fun jj => nI (pk jj)))), (g21, .inl (cI, 24, .inl ti)), (g22, .inl (cJ, 24, .inr (.inl us)))] sz) := by
  refine gx_met RX7 rfl (by decide) rfl (Nat.le_of_ble_eq_true rfl) ?_
  intro X hl hDx hAx C hQ hXP hsz hin
  subst hl; subst hDx
  rw [← hAx] at hQ
  refine g_lv [0, 1] (lv' := [(0, .ref g0), (1, .long lim)]) rfl ?_
  refine g_iconst (v := nI 0) C dX7_packExactly_0 1 rfl (by decide) ?_
  refine g_istore_n C dX7_packExactly_1 2 rfl (by decide) [1, 2, 0] (lv' := [(0, .ref g0), (1, .long lim), (3, .int (nI 0))]) rfl ?_
  have hl : ∀ (fuel n : Nat) (t5 : Nat → Int32) (u5 : Nat → Int64), n ≤ N → N + 1 ≤ n + fuel → gx X 0 0 [(g0, .inr (11, [.int (nI th), .int (nI mn), .ref g1, .ref g2, .int (nI mb), .ref g3, .ref g4, .ref g5, .int (nI mw), .ref g6, .ref g7, .ref g8, .ref g9, .ref g10, .long msa, .long msb, .ref g11, .ref g12, .ref g13, .ref g14, .ref g15, .int (nI mz), .ref g16, .ref g17, .ref g18, .int (nI mv), .ref g19, .int (nI my), .ref g20, .ref g21, .ref g22, .int wt, .int wr, .int fo])), (g2, .inl (cJ, 256, .inr (.inl fa))), (g6, .inl (cI, 24, .inl (fun jj => nI (qA jj)))), (g7, .inl (cI, 24, .inl (fun jj => nI (qB jj)))), (g15, .inl (cI, 24, .inl mr)), (g20, .inl (cI, 24, .inl (fun jj => nI (pk jj)))), (g21, .inl (cI, 24, .inl t5)), (g22, .inl (cJ, 24, .inr (.inl u5)))] 2 [(0, .ref g0), (1, .long lim), (3, .int (nI n))] [] := by
    intro fuel
    induction fuel with
    | zero => intro n t5 u5 h1 h2; exact absurd h2 (by omega)
    | succ fuel hl_ih =>
      intro n t5 u5 hle hfu
      refine g_aload_n C dX7_packExactly_2 3 rfl rfl ?_
      refine g_get C iw_X7_packExactly_X7 0 rfl rfl 27 (by decide) (by decide +kernel) rfl rfl dX7_packExactly_3 6 rfl ?_
      refine g_if_eq_n C dX7_packExactly_6 28 9 (by decide) rfl (by omega) (fun c6 => ?_) (fun c6 => ?_)
      · exact absurd c6 (by omega)
      · refine g_iload_n C dX7_packExactly_9 10 rfl rfl ?_
        refine g_if_le_n C dX7_packExactly_10 22 13 (by decide) rfl (by omega) (fun c10 => ?_) (fun c10 => ?_)
        · refine g_iinc (v := nI (n + 1)) C dX7_packExactly_22 25 rfl rfl (nI_add n 1) (by decide) [1, 2, 0] (lv' := [(0, .ref g0), (1, .long lim), (3, .int (nI (n + 1)))]) rfl ?_
          refine g_goto C dX7_packExactly_25 2 (by decide) ?_
          exact hl_ih (n + 1) _ _ (by omega) (by omega)
        · refine g_aload_n C dX7_packExactly_13 14 rfl rfl ?_
          refine g_iload_n C dX7_packExactly_14 15 rfl rfl ?_
          refine g_lload_n C dX7_packExactly_15 16 rfl rfl ?_
          refine g_callVi (ci := 11) (q0 := 0) (As := [.int (nI n), .long lim]) (rest := []) (wr := [(g15, .inl (cI, 24, .inl mr))]) (ws' := fun (u : (Nat → Int32) × (Nat → Int64)) => [(g0, .inr (11, [.int (nI th), .int (nI mn), .ref g1, .ref g2, .int (nI mb), .ref g3, .ref g4, .ref g5, .int (nI mw), .ref g6, .ref g7, .ref g8, .ref g9, .ref g10, .long msa, .long msb, .ref g11, .ref g12, .ref g13, .ref g14, .ref g15, .int (nI mz), .ref g16, .ref g17, .ref g18, .int (nI mv), .ref g19, .int (nI my), .ref g20, .ref g21, .ref g22, .int wt, .int wr, .int fo])), (g2, .inl (cJ, 256, .inr (.inl fa))), (g6, .inl (cI, 24, .inl (fun jj => nI (qA jj)))), (g7, .inl (cI, 24, .inl (fun jj => nI (qB jj)))), (g15, .inl (cI, 24, .inl mr)), (g20, .inl (cI, 24, .inl (fun jj => nI (pk jj)))), (g21, .inl (cI, 24, .inl u.1)), (g22, .inl (cJ, 24, .inr (.inl u.2)))]) C (fun sz => c_X7_fits _ _ cI cJ cB cZ sz g0 g1 g2 g3 g4 g5 g6 g7 g8 g9 g10 g11 g12 g13 g14 g15 g16 g17 g18 g19 g20 g21 g22 th mn mb mw mz mv my msa msb wt wr fo fa qA qB pk t5 u5 n lim (by omega) hA hB (by omega) (by omega) hpk hsb (by omega)) gx_XP0 2 gX7_packExactly_X7_fits rfl rfl rfl (by decide +kernel) ⟨Nat.le_of_ble_eq_true rfl, Nat.le_of_ble_eq_true rfl⟩ rfl rfl [0, 1, 2, 3, 5, 6, 7] [4] [1, 2, 3, 4, 0, 5, 6, 7] rfl (by decide) rfl (by decide) (by decide) (fun _ => rfl) (by decide) rfl rfl (Nat.le_of_ble_eq_true rfl) dX7_packExactly_16 ⟨Nat.le_of_ble_eq_true rfl, Nat.le_of_ble_eq_true rfl⟩ 19 rfl (fun r u hr16 => ?_)
          obtain ⟨ti1_1, us1_2⟩ := u
          try dsimp only at hr16
          obtain ⟨r16, rfl⟩ : ∃ z, z = r := ⟨_, rfl⟩
          rcases hr16 with ⟨e9, a9, h9, ht9⟩ | ⟨e9, h9⟩
          · rw [ffz_us _ _ _ _ (by omega)] at h9
            have eN : N = n := by rcases Nat.lt_or_ge n N with q | q; rw [hlo n (by omega) q] at h9; cases h9; omega
            subst eN
            rw [hNs] at h9
            cases h9
            refine g_topi 1 e9 ?_
            refine g_if_ne C dX7_packExactly_19 28 22 (by decide) rfl (fun c19 => ?_) (fun c19 => ?_)
            · refine g_iconst (v := nI 0) C dX7_packExactly_28 29 rfl (by decide) ?_
              refine g_istore C dX7_packExactly_29 31 rfl (by decide) [1, 2, 3, 0] (lv' := [(0, .ref g0), (1, .long lim), (3, .int (nI N)), (4, .int (nI 0))]) rfl ?_
              have hk4 : ∀ (fuel i : Nat), i ≤ my → my + 1 ≤ i + fuel → gx X 0 0 [(g0, .inr (11, [.int (nI th), .int (nI mn), .ref g1, .ref g2, .int (nI mb), .ref g3, .ref g4, .ref g5, .int (nI mw), .ref g6, .ref g7, .ref g8, .ref g9, .ref g10, .long msa, .long msb, .ref g11, .ref g12, .ref g13, .ref g14, .ref g15, .int (nI mz), .ref g16, .ref g17, .ref g18, .int (nI mv), .ref g19, .int (nI my), .ref g20, .ref g21, .ref g22, .int wt, .int wr, .int fo])), (g2, .inl (cJ, 256, .inr (.inl fa))), (g6, .inl (cI, 24, .inl (fun jj => nI (qA jj)))), (g7, .inl (cI, 24, .inl (fun jj => nI (qB jj)))), (g15, .inl (cI, 24, .inl (kt mr pk a i))), (g20, .inl (cI, 24, .inl (fun jj => nI (pk jj)))), (g21, .inl (cI, 24, .inl ti1_1)), (g22, .inl (cJ, 24, .inr (.inl us1_2)))] 31 [(0, .ref g0), (1, .long lim), (3, .int (nI N)), (4, .int (nI i))] [] := by
                intro fuel
                induction fuel with
                | zero => intro i h1 h2; exact absurd h2 (by omega)
                | succ fuel hk4_ih =>
                  intro i hle hfu
                  refine g_iload C dX7_packExactly_31 33 rfl rfl ?_
                  refine g_aload_n C dX7_packExactly_33 34 rfl rfl ?_
                  refine g_get C iw_X7_packExactly_X7 0 rfl rfl 27 (by decide) (by decide +kernel) rfl rfl dX7_packExactly_34 37 rfl ?_
                  refine g_icmp_ge_n C dX7_packExactly_37 65 40 (by decide) rfl (by omega) (by omega) (fun c37 => ?_) (fun c37 => ?_)
                  · have e_i : my = i := by omega
                    subst e_i
                    refine g_iload_n C dX7_packExactly_65 66 rfl rfl ?_
                    exact g_iret C hQ (Nat.le_of_ble_eq_true rfl) (Nat.le_of_ble_eq_true rfl) dX7_packExactly_66 (ti1_1, us1_2) rfl (by first | (dsimp only; done) | rfl)
                  · have hpk1 := hpk i (by omega)
                    refine g_aload_n C dX7_packExactly_40 41 rfl rfl ?_
                    refine g_get C iw_X7_packExactly_X7 0 rfl rfl 20 (by decide) (by decide +kernel) rfl rfl dX7_packExactly_41 44 rfl ?_
                    refine g_aload_n C dX7_packExactly_44 45 rfl rfl ?_
                    refine g_get C iw_X7_packExactly_X7 0 rfl rfl 28 (by decide) (by decide +kernel) rfl rfl dX7_packExactly_45 48 rfl ?_
                    refine g_iload C dX7_packExactly_48 50 rfl rfl ?_
                    refine g_iald C 5 0 rfl rfl i rfl (by omega) (by decide) dX7_packExactly_50 51 rfl ?_
                    refine g_aload_n C dX7_packExactly_51 52 rfl rfl ?_
                    refine g_get C iw_X7_packExactly_X7 0 rfl rfl 29 (by decide) (by decide +kernel) rfl rfl dX7_packExactly_52 55 rfl ?_
                    refine g_iload C dX7_packExactly_55 57 rfl rfl ?_
                    refine g_iald C 6 0 rfl rfl i rfl (by omega) (by decide) dX7_packExactly_57 58 rfl ?_
                    refine g_topi (nI (a i)) (ht9 i (by omega)) ?_
                    refine g_iast C 4 0 rfl rfl (pk i) rfl (by omega) (by decide) dX7_packExactly_58 59 rfl (ws' := [(g0, .inr (11, [.int (nI th), .int (nI mn), .ref g1, .ref g2, .int (nI mb), .ref g3, .ref g4, .ref g5, .int (nI mw), .ref g6, .ref g7, .ref g8, .ref g9, .ref g10, .long msa, .long msb, .ref g11, .ref g12, .ref g13, .ref g14, .ref g15, .int (nI mz), .ref g16, .ref g17, .ref g18, .int (nI mv), .ref g19, .int (nI my), .ref g20, .ref g21, .ref g22, .int wt, .int wr, .int fo])), (g2, .inl (cJ, 256, .inr (.inl fa))), (g6, .inl (cI, 24, .inl (fun jj => nI (qA jj)))), (g7, .inl (cI, 24, .inl (fun jj => nI (qB jj)))), (g15, .inl (cI, 24, .inl (upd (kt mr pk a i) (pk i) (nI (a i))))), (g20, .inl (cI, 24, .inl (fun jj => nI (pk jj)))), (g21, .inl (cI, 24, .inl ti1_1)), (g22, .inl (cJ, 24, .inr (.inl us1_2)))]) rfl ?_
                    refine g_iinc (v := nI (i + 1)) C dX7_packExactly_59 62 rfl rfl (nI_add i 1) (by decide) [1, 2, 3, 0] (lv' := [(0, .ref g0), (1, .long lim), (3, .int (nI N)), (4, .int (nI (i + 1)))]) rfl ?_
                    refine g_goto C dX7_packExactly_62 31 (by decide) ?_
                    rw [show upd (kt mr pk a i) (pk i) (nI (a i)) = kt mr pk a (i + 1) from rfl]
                    exact hk4_ih (i + 1) (by omega) (by omega)
              refine g_ws (ws' := [(g0, .inr (11, [.int (nI th), .int (nI mn), .ref g1, .ref g2, .int (nI mb), .ref g3, .ref g4, .ref g5, .int (nI mw), .ref g6, .ref g7, .ref g8, .ref g9, .ref g10, .long msa, .long msb, .ref g11, .ref g12, .ref g13, .ref g14, .ref g15, .int (nI mz), .ref g16, .ref g17, .ref g18, .int (nI mv), .ref g19, .int (nI my), .ref g20, .ref g21, .ref g22, .int wt, .int wr, .int fo])), (g2, .inl (cJ, 256, .inr (.inl fa))), (g6, .inl (cI, 24, .inl (fun jj => nI (qA jj)))), (g7, .inl (cI, 24, .inl (fun jj => nI (qB jj)))), (g15, .inl (cI, 24, .inl (kt mr pk a 0))), (g20, .inl (cI, 24, .inl (fun jj => nI (pk jj)))), (g21, .inl (cI, 24, .inl ti1_1)), (g22, .inl (cJ, 24, .inr (.inl us1_2)))]) rfl ?_
              exact hk4 (my + 1) 0 (by omega) (by omega)
            · exact absurd c19 (by decide)
          · rw [ffz_us _ _ _ _ (by omega)] at h9
            have hnN : n < N := by rcases Nat.lt_or_ge n N with q | q; exact q; rw [show n = N by omega, hNs] at h9; cases h9
            refine g_topi 0 e9 ?_
            refine g_if_ne C dX7_packExactly_19 28 22 (by decide) rfl (fun c19 => ?_) (fun c19 => ?_)
            · exact absurd rfl c19
            · refine g_iinc (v := nI (n + 1)) C dX7_packExactly_22 25 rfl rfl (nI_add n 1) (by decide) [1, 2, 0] (lv' := [(0, .ref g0), (1, .long lim), (3, .int (nI (n + 1)))]) rfl ?_
              refine g_goto C dX7_packExactly_25 2 (by decide) ?_
              exact hl_ih (n + 1) _ _ (by omega) (by omega)
  exact hl (N + 1) 0 _ _ (by omega) (by omega)

set_option maxHeartbeats 4000000 in
set_option maxRecDepth 100000 in
theorem c_X7_packExactly_0 (l : Launch) (D : va_G) (cI cJ cB cZ : ClassId) (sz : Nat) (g0 : Nat) (g1 : Nat) (g2 : Nat) (g3 : Nat) (g4 : Nat) (g5 : Nat) (g6 : Nat) (g7 : Nat) (g8 : Nat) (g9 : Nat) (g10 : Nat) (g11 : Nat) (g12 : Nat) (g13 : Nat) (g14 : Nat) (g15 : Nat) (g16 : Nat) (g17 : Nat) (g18 : Nat) (g19 : Nat) (g20 : Nat) (g21 : Nat) (g22 : Nat) (th : Nat) (mn : Nat) (mb : Nat) (mw : Nat) (mz : Nat) (mv : Nat) (my : Nat) (msa : Int64) (msb : Int64) (wt : Int32) (wr : Int32) (fo : Int32) (fa : Nat → Int64) (qA : Nat → Nat) (qB : Nat → Nat) (mr : Nat → Int32) (pk : Nat → Nat) (ti : Nat → Int32) (us : Nat → Int64) (lim : Int64) (hm0 : my = 0) : Met l yX7_packExactly wsX7_packExactly ({ frames := 0, cells := 0, slots := 0, locals := 0 }) (va_Pc [.ref g0, .long lim] (pW D (TY cI cJ cB cZ) [(g0, .inr (11, [.int (nI th), .int (nI mn), .ref g1, .ref g2, .int (nI mb), .ref g3, .ref g4, .ref g5, .int (nI mw), .ref g6, .ref g7, .ref g8, .ref g9, .ref g10, .long msa, .long msb, .ref g11, .ref g12, .ref g13, .ref g14, .ref g15, .int (nI mz), .ref g16, .ref g17, .ref g18, .int (nI mv), .ref g19, .int (nI my), .ref g20, .ref g21, .ref g22, .int wt, .int wr, .int fo])), (g2, .inl (cJ, 256, .inr (.inl fa))), (g6, .inl (cI, 24, .inl (fun jj => nI (qA jj)))), (g7, .inl (cI, 24, .inl (fun jj => nI (qB jj)))), (g15, .inl (cI, 24, .inl mr)), (g20, .inl (cI, 24, .inl (fun jj => nI (pk jj)))), (g21, .inl (cI, 24, .inl ti)), (g22, .inl (cJ, 24, .inr (.inl us)))] (fun _ => True) sz)) (va_Qi (fun (rv : Int32) (_ : Unit) => rv = nI 0) (qW D (TY cI cJ cB cZ) (va_A [(g0, .inr (11, [.int (nI th), .int (nI mn), .ref g1, .ref g2, .int (nI mb), .ref g3, .ref g4, .ref g5, .int (nI mw), .ref g6, .ref g7, .ref g8, .ref g9, .ref g10, .long msa, .long msb, .ref g11, .ref g12, .ref g13, .ref g14, .ref g15, .int (nI mz), .ref g16, .ref g17, .ref g18, .int (nI mv), .ref g19, .int (nI my), .ref g20, .ref g21, .ref g22, .int wt, .int wr, .int fo])), (g2, .inl (cJ, 256, .inr (.inl fa))), (g6, .inl (cI, 24, .inl (fun jj => nI (qA jj)))), (g7, .inl (cI, 24, .inl (fun jj => nI (qB jj)))), (g15, .inl (cI, 24, .inl mr)), (g20, .inl (cI, 24, .inl (fun jj => nI (pk jj)))), (g21, .inl (cI, 24, .inl ti)), (g22, .inl (cJ, 24, .inr (.inl us)))] sz) (fun _ => [(g0, .inr (11, [.int (nI th), .int (nI mn), .ref g1, .ref g2, .int (nI mb), .ref g3, .ref g4, .ref g5, .int (nI mw), .ref g6, .ref g7, .ref g8, .ref g9, .ref g10, .long msa, .long msb, .ref g11, .ref g12, .ref g13, .ref g14, .ref g15, .int (nI mz), .ref g16, .ref g17, .ref g18, .int (nI mv), .ref g19, .int (nI my), .ref g20, .ref g21, .ref g22, .int wt, .int wr, .int fo])), (g2, .inl (cJ, 256, .inr (.inl fa))), (g6, .inl (cI, 24, .inl (fun jj => nI (qA jj)))), (g7, .inl (cI, 24, .inl (fun jj => nI (qB jj)))), (g15, .inl (cI, 24, .inl mr)), (g20, .inl (cI, 24, .inl (fun jj => nI (pk jj)))), (g21, .inl (cI, 24, .inl ti)), (g22, .inl (cJ, 24, .inr (.inl us)))])) (va_A [(g0, .inr (11, [.int (nI th), .int (nI mn), .ref g1, .ref g2, .int (nI mb), .ref g3, .ref g4, .ref g5, .int (nI mw), .ref g6, .ref g7, .ref g8, .ref g9, .ref g10, .long msa, .long msb, .ref g11, .ref g12, .ref g13, .ref g14, .ref g15, .int (nI mz), .ref g16, .ref g17, .ref g18, .int (nI mv), .ref g19, .int (nI my), .ref g20, .ref g21, .ref g22, .int wt, .int wr, .int fo])), (g2, .inl (cJ, 256, .inr (.inl fa))), (g6, .inl (cI, 24, .inl (fun jj => nI (qA jj)))), (g7, .inl (cI, 24, .inl (fun jj => nI (qB jj)))), (g15, .inl (cI, 24, .inl mr)), (g20, .inl (cI, 24, .inl (fun jj => nI (pk jj)))), (g21, .inl (cI, 24, .inl ti)), (g22, .inl (cJ, 24, .inr (.inl us)))] sz)) 0 0 (va_A [(g0, .inr (11, [.int (nI th), .int (nI mn), .ref g1, .ref g2, .int (nI mb), .ref g3, .ref g4, .ref g5, .int (nI mw), .ref g6, .ref g7, .ref g8, .ref g9, .ref g10, .long msa, .long msb, .ref g11, .ref g12, .ref g13, .ref g14, .ref g15, .int (nI mz), .ref g16, .ref g17, .ref g18, .int (nI mv), .ref g19, .int (nI my), .ref g20, .ref g21, .ref g22, .int wt, .int wr, .int fo])), (g2, .inl (cJ, 256, .inr (.inl fa))), (g6, .inl (cI, 24, .inl (fun jj => nI (qA jj)))), (g7, .inl (cI, 24, .inl (fun jj => nI (qB jj)))), (g15, .inl (cI, 24, .inl mr)), (g20, .inl (cI, 24, .inl (fun jj => nI (pk jj)))), (g21, .inl (cI, 24, .inl ti)), (g22, .inl (cJ, 24, .inr (.inl us)))] sz) := by
  refine gx_met RX7 rfl (by decide) rfl (Nat.le_of_ble_eq_true rfl) ?_
  intro X hl hDx hAx C hQ hXP hsz hin
  subst hl; subst hDx
  rw [← hAx] at hQ
  refine g_lv [0, 1] (lv' := [(0, .ref g0), (1, .long lim)]) rfl ?_
  refine g_iconst (v := nI 0) C dX7_packExactly_0 1 rfl (by decide) ?_
  refine g_istore_n C dX7_packExactly_1 2 rfl (by decide) [1, 2, 0] (lv' := [(0, .ref g0), (1, .long lim), (3, .int (nI 0))]) rfl ?_
  refine g_aload_n C dX7_packExactly_2 3 rfl rfl ?_
  refine g_get C iw_X7_packExactly_X7 0 rfl rfl 27 (by decide) (by decide +kernel) rfl rfl dX7_packExactly_3 6 rfl ?_
  refine g_if_eq_n C dX7_packExactly_6 28 9 (by decide) rfl (by omega) (fun c6 => ?_) (fun c6 => ?_)
  · refine g_iconst (v := nI 0) C dX7_packExactly_28 29 rfl (by decide) ?_
    refine g_istore C dX7_packExactly_29 31 rfl (by decide) [1, 2, 3, 0] (lv' := [(0, .ref g0), (1, .long lim), (3, .int (nI 0)), (4, .int (nI 0))]) rfl ?_
    refine g_iload C dX7_packExactly_31 33 rfl rfl ?_
    refine g_aload_n C dX7_packExactly_33 34 rfl rfl ?_
    refine g_get C iw_X7_packExactly_X7 0 rfl rfl 27 (by decide) (by decide +kernel) rfl rfl dX7_packExactly_34 37 rfl ?_
    refine g_icmp_ge_n C dX7_packExactly_37 65 40 (by decide) rfl (by omega) (by omega) (fun c37 => ?_) (fun c37 => ?_)
    · refine g_iload_n C dX7_packExactly_65 66 rfl rfl ?_
      exact g_iret C hQ (Nat.le_of_ble_eq_true rfl) (Nat.le_of_ble_eq_true rfl) dX7_packExactly_66 () rfl rfl
    · exact absurd c37 (by omega)
  · exact absurd c6 (by omega)
