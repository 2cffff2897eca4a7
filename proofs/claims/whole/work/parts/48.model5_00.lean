theorem iw_X7_told_X7 : ∀ w ∈ wsX70, w ∈ wsX7_told := by decide +kernel
set_option maxHeartbeats 4000000 in
set_option maxRecDepth 100000 in
theorem c_X7_told (l : Launch) (D : va_G) (cI cJ cB cZ : ClassId) (sz : Nat) (g0 : Nat) (g1 : Nat) (g2 : Nat) (g3 : Nat) (g4 : Nat) (g5 : Nat) (g6 : Nat) (g7 : Nat) (g8 : Nat) (g9 : Nat) (g10 : Nat) (g11 : Nat) (g12 : Nat) (g13 : Nat) (g14 : Nat) (g15 : Nat) (g16 : Nat) (g17 : Nat) (g18 : Nat) (g19 : Nat) (g20 : Nat) (g21 : Nat) (g22 : Nat) (th : Nat) (mn : Nat) (mb : Nat) (mw : Nat) (mz : Nat) (mv : Nat) (my : Nat) (msa : Int64) (msb : Int64) (wt : Int32) (wr : Int32) (fo : Int32) (qA : Nat → Nat) (qB : Nat → Nat) (mk : Nat → Nat) (k : Int32) (x : Int32) (hmw : mw ≤ 24) (h6 : mv ≤ 6) (hmk : ∀ k, k < 144 → mk k ≤ 2) : Met l yX7_told wsX7_told ({ frames := 1, cells := 0, slots := 0, locals := 23 }) (va_Pc [.ref g0, .int k, .int x] (pW D (TY cI cJ cB cZ) [(g0, .inr (11, [.int (nI th), .int (nI mn), .ref g1, .ref g2, .int (nI mb), .ref g3, .ref g4, .ref g5, .int (nI mw), .ref g6, .ref g7, .ref g8, .ref g9, .ref g10, .long msa, .long msb, .ref g11, .ref g12, .ref g13, .ref g14, .ref g15, .int (nI mz), .ref g16, .ref g17, .ref g18, .int (nI mv), .ref g19, .int (nI my), .ref g20, .ref g21, .ref g22, .int wt, .int wr, .int fo])), (g6, .inl (cI, 24, .inl (fun jj => nI (qA jj)))), (g7, .inl (cI, 24, .inl (fun jj => nI (qB jj)))), (g19, .inl (cI, 144, .inl (fun jj => nI (mk jj))))] (fun _ => True) sz)) (va_Qi (fun (rv : Int32) (u : Nat) => (u = 1 ∧ ¬ inR x 2) ∨ (u = 0 ∧ inR x 2 ∧ rv = Gtold qA qB mk mv mw k (cN x))) (qW D (TY cI cJ cB cZ) (va_A [(g0, .inr (11, [.int (nI th), .int (nI mn), .ref g1, .ref g2, .int (nI mb), .ref g3, .ref g4, .ref g5, .int (nI mw), .ref g6, .ref g7, .ref g8, .ref g9, .ref g10, .long msa, .long msb, .ref g11, .ref g12, .ref g13, .ref g14, .ref g15, .int (nI mz), .ref g16, .ref g17, .ref g18, .int (nI mv), .ref g19, .int (nI my), .ref g20, .ref g21, .ref g22, .int wt, .int wr, .int fo])), (g6, .inl (cI, 24, .inl (fun jj => nI (qA jj)))), (g7, .inl (cI, 24, .inl (fun jj => nI (qB jj)))), (g19, .inl (cI, 144, .inl (fun jj => nI (mk jj))))] sz) (fun u => [(g0, .inr (11, [.int (nI u), .int (nI mn), .ref g1, .ref g2, .int (nI mb), .ref g3, .ref g4, .ref g5, .int (nI mw), .ref g6, .ref g7, .ref g8, .ref g9, .ref g10, .long msa, .long msb, .ref g11, .ref g12, .ref g13, .ref g14, .ref g15, .int (nI mz), .ref g16, .ref g17, .ref g18, .int (nI mv), .ref g19, .int (nI my), .ref g20, .ref g21, .ref g22, .int wt, .int wr, .int fo])), (g6, .inl (cI, 24, .inl (fun jj => nI (qA jj)))), (g7, .inl (cI, 24, .inl (fun jj => nI (qB jj)))), (g19, .inl (cI, 144, .inl (fun jj => nI (mk jj))))])) (va_A [(g0, .inr (11, [.int (nI th), .int (nI mn), .ref g1, .ref g2, .int (nI mb), .ref g3, .ref g4, .ref g5, .int (nI mw), .ref g6, .ref g7, .ref g8, .ref g9, .ref g10, .long msa, .long msb, .ref g11, .ref g12, .ref g13, .ref g14, .ref g15, .int (nI mz), .ref g16, .ref g17, .ref g18, .int (nI mv), .ref g19, .int (nI my), .ref g20, .ref g21, .ref g22, .int wt, .int wr, .int fo])), (g6, .inl (cI, 24, .inl (fun jj => nI (qA jj)))), (g7, .inl (cI, 24, .inl (fun jj => nI (qB jj)))), (g19, .inl (cI, 144, .inl (fun jj => nI (mk jj))))] sz)) 0 0 (va_A [(g0, .inr (11, [.int (nI th), .int (nI mn), .ref g1, .ref g2, .int (nI mb), .ref g3, .ref g4, .ref g5, .int (nI mw), .ref g6, .ref g7, .ref g8, .ref g9, .ref g10, .long msa, .long msb, .ref g11, .ref g12, .ref g13, .ref g14, .ref g15, .int (nI mz), .ref g16, .ref g17, .ref g18, .int (nI mv), .ref g19, .int (nI my), .ref g20, .ref g21, .ref g22, .int wt, .int wr, .int fo])), (g6, .inl (cI, 24, .inl (fun jj => nI (qA jj)))), (g7, .inl (cI, 24, .inl (fun jj => nI (qB jj)))), (g19, .inl (cI, 144, .inl (fun jj => nI (mk jj))))] sz) := by
  refine gx_met RX7 rfl (by decide) rfl (Nat.le_of_ble_eq_true rfl) ?_
  intro X hl hDx hAx C hQ hXP hsz hin
  subst hl; subst hDx
  rw [← hAx] at hQ
  refine g_lv [0, 1, 2] (lv' := [(0, .ref g0), (1, .int k), (2, .int x)]) rfl ?_
  refine g_aload_n C dX7_told_0 1 rfl rfl ?_
  refine g_iload_n C dX7_told_1 2 rfl rfl ?_
  refine g_if_eq C dX7_told_2 10 5 (by decide) rfl (fun c2 => ?_) (fun c2 => ?_)
  · refine g_iconst (v := nI 0) C dX7_told_10 11 rfl (by decide) ?_
    refine g_goto C dX7_told_11 15 (by decide) ?_
    refine g_put C (ty := .int) iw_X7_told_X7 tyX7 tyX7_ok nmX7 0 rfl rfl 0 (by decide) (by decide +kernel) rfl rfl (by decide +kernel) rfl rfl (Nat.le_of_ble_eq_true rfl) dX7_told_15 18 rfl (ws' := [(g0, .inr (11, [.int (nI 0), .int (nI mn), .ref g1, .ref g2, .int (nI mb), .ref g3, .ref g4, .ref g5, .int (nI mw), .ref g6, .ref g7, .ref g8, .ref g9, .ref g10, .long msa, .long msb, .ref g11, .ref g12, .ref g13, .ref g14, .ref g15, .int (nI mz), .ref g16, .ref g17, .ref g18, .int (nI mv), .ref g19, .int (nI my), .ref g20, .ref g21, .ref g22, .int wt, .int wr, .int fo])), (g6, .inl (cI, 24, .inl (fun jj => nI (qA jj)))), (g7, .inl (cI, 24, .inl (fun jj => nI (qB jj)))), (g19, .inl (cI, 144, .inl (fun jj => nI (mk jj))))]) rfl ?_
    refine g_aload_n C dX7_told_18 19 rfl rfl ?_
    refine g_get C iw_X7_told_X7 0 rfl rfl 0 (by decide) (by decide +kernel) rfl rfl dX7_told_19 22 rfl ?_
    refine g_if_eq_n C dX7_told_22 27 25 (by decide) rfl (by omega) (fun c22 => ?_) (fun c22 => ?_)
    · have hrx : inR x 2 := ⟨0, by omega, c2⟩
      have hcx : cN x = 0 := by rw [c2]; rfl
      rcases Decidable.em (k < 0) with hk | hk
      · refine g_iload_n C dX7_told_27 28 rfl rfl ?_
        refine g_istore_n C dX7_told_28 29 rfl (by decide) [1, 2, 3, 0] (lv' := [(0, .ref g0), (1, .int k), (2, .int x), (3, .int k)]) rfl ?_
        refine g_iconst (v := nI 0) C dX7_told_29 30 rfl (by decide) ?_
        refine g_istore C dX7_told_30 32 rfl (by decide) [1, 2, 3, 4, 0] (lv' := [(0, .ref g0), (1, .int k), (2, .int x), (3, .int k), (4, .int (nI 0))]) rfl ?_
        refine g_iload C dX7_told_32 34 rfl rfl ?_
        refine g_aload_n C dX7_told_34 35 rfl rfl ?_
        refine g_get C iw_X7_told_X7 0 rfl rfl 8 (by decide) (by decide +kernel) rfl rfl dX7_told_35 38 rfl ?_
        refine g_icmp_ge_n C dX7_told_38 105 41 (by decide) rfl (by omega) (by omega) (fun c38 => ?_) (fun c38 => ?_)
        · refine g_iconst (v := -1) C dX7_told_105 106 rfl (by decide) ?_
          exact g_iret C hQ (Nat.le_of_ble_eq_true rfl) (Nat.le_of_ble_eq_true rfl) dX7_told_106 (0) (Or.inr ⟨rfl, hrx, by rw [Gtold, if_pos (Or.inl hk)]⟩) (by first | (dsimp only; done) | rfl)
        · refine g_iload_n C dX7_told_41 42 rfl rfl ?_
          refine g_if_lt C dX7_told_42 105 45 (by decide) rfl (fun c42 => ?_) (fun c42 => ?_)
          · refine g_iconst (v := -1) C dX7_told_105 106 rfl (by decide) ?_
            exact g_iret C hQ (Nat.le_of_ble_eq_true rfl) (Nat.le_of_ble_eq_true rfl) dX7_told_106 (0) (Or.inr ⟨rfl, hrx, by rw [Gtold, if_pos (Or.inl hk)]⟩) (by first | (dsimp only; done) | rfl)
          · exact absurd hk c42
      · obtain ⟨k, hk2, rfl⟩ := nI_of hk
        rcases Nat.eq_zero_or_pos mv with hv0 | hv0
        · refine g_iload_n C dX7_told_27 28 rfl rfl ?_
          refine g_istore_n C dX7_told_28 29 rfl (by decide) [1, 2, 3, 0] (lv' := [(0, .ref g0), (1, .int (nI k)), (2, .int x), (3, .int (nI k))]) rfl ?_
          refine g_iconst (v := nI 0) C dX7_told_29 30 rfl (by decide) ?_
          refine g_istore C dX7_told_30 32 rfl (by decide) [1, 2, 3, 4, 0] (lv' := [(0, .ref g0), (1, .int (nI k)), (2, .int x), (3, .int (nI k)), (4, .int (nI 0))]) rfl ?_
          refine g_iload C dX7_told_32 34 rfl rfl ?_
          refine g_aload_n C dX7_told_34 35 rfl rfl ?_
          refine g_get C iw_X7_told_X7 0 rfl rfl 8 (by decide) (by decide +kernel) rfl rfl dX7_told_35 38 rfl ?_
          refine g_icmp_ge_n C dX7_told_38 105 41 (by decide) rfl (by omega) (by omega) (fun c38 => ?_) (fun c38 => ?_)
          · refine g_iconst (v := -1) C dX7_told_105 106 rfl (by decide) ?_
            exact g_iret C hQ (Nat.le_of_ble_eq_true rfl) (Nat.le_of_ble_eq_true rfl) dX7_told_106 (0) (Or.inr ⟨rfl, hrx, by rw [Gtold, if_pos (Or.inr hv0)]⟩) (by first | (dsimp only; done) | rfl)
          · refine g_iload_n C dX7_told_41 42 rfl rfl ?_
            refine g_if_lt_n C dX7_told_42 105 45 (by decide) rfl (by omega) ?_
            refine g_aload_n C dX7_told_45 46 rfl rfl ?_
            refine g_get C iw_X7_told_X7 0 rfl rfl 25 (by decide) (by decide +kernel) rfl rfl dX7_told_46 49 rfl ?_
            refine g_if_le_n C dX7_told_49 105 52 (by decide) rfl (by omega) (fun c49 => ?_) (fun c49 => ?_)
            · refine g_iconst (v := -1) C dX7_told_105 106 rfl (by decide) ?_
              exact g_iret C hQ (Nat.le_of_ble_eq_true rfl) (Nat.le_of_ble_eq_true rfl) dX7_told_106 (0) (Or.inr ⟨rfl, hrx, by rw [Gtold, if_pos (Or.inr hv0)]⟩) (by first | (dsimp only; done) | rfl)
            · exact absurd hv0 (by omega)
        · refine g_iload_n C dX7_told_27 28 rfl rfl ?_
          refine g_istore_n C dX7_told_28 29 rfl (by decide) [1, 2, 3, 0] (lv' := [(0, .ref g0), (1, .int (nI k)), (2, .int x), (3, .int (nI k))]) rfl ?_
          refine g_iconst (v := nI 0) C dX7_told_29 30 rfl (by decide) ?_
          refine g_istore C dX7_told_30 32 rfl (by decide) [1, 2, 3, 4, 0] (lv' := [(0, .ref g0), (1, .int (nI k)), (2, .int x), (3, .int (nI k)), (4, .int (nI 0))]) rfl ?_
          have hloop : ∀ (fuel w : Nat), w ≤ mw → mw + 1 ≤ w + fuel → (cnt (fun i => mon mk i mv) w ≤ k) → (wfind (koff (fun i => mon mk i mv) k) w = none) → gx X 0 0 [(g0, .inr (11, [.int (nI 0), .int (nI mn), .ref g1, .ref g2, .int (nI mb), .ref g3, .ref g4, .ref g5, .int (nI mw), .ref g6, .ref g7, .ref g8, .ref g9, .ref g10, .long msa, .long msb, .ref g11, .ref g12, .ref g13, .ref g14, .ref g15, .int (nI mz), .ref g16, .ref g17, .ref g18, .int (nI mv), .ref g19, .int (nI my), .ref g20, .ref g21, .ref g22, .int wt, .int wr, .int fo])), (g6, .inl (cI, 24, .inl (fun jj => nI (qA jj)))), (g7, .inl (cI, 24, .inl (fun jj => nI (qB jj)))), (g19, .inl (cI, 144, .inl (fun jj => nI (mk jj))))] 32 [(0, .ref g0), (1, .int (nI k)), (2, .int x), (3, .int (nI (k - cnt (fun i => mon mk i mv) w))), (4, .int (nI w))] [] := by
            intro fuel
            induction fuel with
            | zero => intro w h1 h2; exact absurd h2 (by omega)
            | succ fuel hloop_ih =>
              intro w hle hfu hck hno
              refine g_iload C dX7_told_32 34 rfl rfl ?_
              refine g_aload_n C dX7_told_34 35 rfl rfl ?_
              refine g_get C iw_X7_told_X7 0 rfl rfl 8 (by decide) (by decide +kernel) rfl rfl dX7_told_35 38 rfl ?_
              refine g_icmp_ge_n C dX7_told_38 105 41 (by decide) rfl (by omega) (by omega) (fun c38 => ?_) (fun c38 => ?_)
              · have e_w : mw = w := by omega
                subst e_w
                refine g_iconst (v := -1) C dX7_told_105 106 rfl (by decide) ?_
                exact g_iret C hQ (Nat.le_of_ble_eq_true rfl) (Nat.le_of_ble_eq_true rfl) dX7_told_106 (0) (Or.inr ⟨rfl, hrx, by rw [Gtold, if_neg (fun q => q.elim hk (by omega)), cN_nI (by omega), hno]⟩) (by first | (dsimp only; done) | rfl)
              · refine g_iload_n C dX7_told_41 42 rfl rfl ?_
                refine g_if_lt_n C dX7_told_42 105 45 (by decide) rfl (by omega) ?_
                refine g_aload_n C dX7_told_45 46 rfl rfl ?_
                refine g_get C iw_X7_told_X7 0 rfl rfl 25 (by decide) (by decide +kernel) rfl rfl dX7_told_46 49 rfl ?_
                refine g_if_le_n C dX7_told_49 105 52 (by decide) rfl (by omega) (fun c49 => ?_) (fun c49 => ?_)
                · exact absurd c49 (by omega)
                · have hcn := cnt_le (fun i => mon mk i mv) w
                  refine g_aload_n C dX7_told_52 53 rfl rfl ?_
                  refine g_aload_n C dX7_told_53 54 rfl rfl ?_
                  refine g_get C iw_X7_told_X7 0 rfl rfl 25 (by decide) (by decide +kernel) rfl rfl dX7_told_54 57 rfl ?_
                  refine g_iconst (v := nI 1) C dX7_told_57 58 rfl (by decide) ?_
                  refine g_isubn C dX7_told_58 59 rfl (by omega) ?_
                  refine g_iload C dX7_told_59 61 rfl rfl ?_
                  refine g_callVi (ci := 11) (q0 := 0) (As := [.int (nI (mv - 1)), .int (nI w)]) (rest := []) (wr := [(g6, .inl (cI, 24, .inl (fun jj => nI (qA jj)))), (g7, .inl (cI, 24, .inl (fun jj => nI (qB jj))))]) (ws' := fun (_ : Unit) => [(g0, .inr (11, [.int (nI 0), .int (nI mn), .ref g1, .ref g2, .int (nI mb), .ref g3, .ref g4, .ref g5, .int (nI mw), .ref g6, .ref g7, .ref g8, .ref g9, .ref g10, .long msa, .long msb, .ref g11, .ref g12, .ref g13, .ref g14, .ref g15, .int (nI mz), .ref g16, .ref g17, .ref g18, .int (nI mv), .ref g19, .int (nI my), .ref g20, .ref g21, .ref g22, .int wt, .int wr, .int fo])), (g6, .inl (cI, 24, .inl (fun jj => nI (qA jj)))), (g7, .inl (cI, 24, .inl (fun jj => nI (qB jj)))), (g19, .inl (cI, 144, .inl (fun jj => nI (mk jj))))]) C (fun sz => c_X7_isOn _ _ cI cJ cB cZ sz g0 g1 g2 g3 g4 g5 g6 g7 g8 g9 g10 g11 g12 g13 g14 g15 g16 g17 g18 g19 g20 g21 g22 0 mn mb mw mz mv my msa msb wt wr fo mk (mv - 1) w (by omega) (by omega) hmk) gx_XP0 2 gX7_told_X7_isOn rfl rfl rfl (by decide +kernel) ⟨Nat.le_of_ble_eq_true rfl, Nat.le_of_ble_eq_true rfl⟩ rfl rfl [0, 3] [1, 2] [2, 0, 1, 3] rfl (by decide) rfl (by decide) (by decide) (fun _ => rfl) (by decide) rfl rfl (Nat.le_of_ble_eq_true rfl) dX7_told_61 ⟨Nat.le_of_ble_eq_true rfl, Nat.le_of_ble_eq_true rfl⟩ 64 rfl (eqk ?_)
                  refine g_if_eq_b C dX7_told_64 70 67 (by decide) rfl (fun c64 => ?_) (fun c64 => ?_)
                  · rw [show mv - 1 + 1 = mv by omega] at c64
                    refine g_iload_n C dX7_told_70 71 rfl rfl ?_
                    refine g_if_ne_n C dX7_told_71 96 74 (by decide) rfl (by omega) (fun c71 => ?_) (fun c71 => ?_)
                    · refine g_iinc (v := nI ((k - cnt (fun i => mon mk i mv) w) - 1)) C dX7_told_96 99 rfl rfl (nI_dec (k - cnt (fun i => mon mk i mv) w) (by omega)) (by decide) [1, 2, 3, 0, 4] (lv' := [(0, .ref g0), (1, .int (nI k)), (2, .int x), (3, .int (nI ((k - cnt (fun i => mon mk i mv) w) - 1))), (4, .int (nI w))]) rfl ?_
                      refine g_iinc (v := nI (w + 1)) C dX7_told_99 102 rfl rfl (nI_add w 1) (by decide) [1, 2, 3, 4, 0] (lv' := [(0, .ref g0), (1, .int (nI k)), (2, .int x), (3, .int (nI ((k - cnt (fun i => mon mk i mv) w) - 1))), (4, .int (nI (w + 1)))]) rfl ?_
                      refine g_goto C dX7_told_102 32 (by decide) ?_
                      rw [show k - cnt (fun i => mon mk i mv) w - 1 = k - cnt (fun i => mon mk i mv) (w + 1) from by simp only [cnt]; rw [if_neg (by rw [c64]; decide)]; omega]
                      exact hloop_ih (w + 1) (by omega) (by omega) (by simp only [cnt]; rw [if_neg (by rw [c64]; decide)]; omega) (wfind_next hno (by simp [koff, c64]; omega))
                    · refine g_iload_n C dX7_told_74 75 rfl rfl ?_
                      refine g_if_ne C dX7_told_75 88 78 (by decide) rfl (fun c75 => ?_) (fun c75 => ?_)
                      · exact absurd c2 c75
                      · refine g_aload_n C dX7_told_78 79 rfl rfl ?_
                        refine g_get C iw_X7_told_X7 0 rfl rfl 9 (by decide) (by decide +kernel) rfl rfl dX7_told_79 82 rfl ?_
                        refine g_iload C dX7_told_82 84 rfl rfl ?_
                        refine g_iald C 1 0 rfl rfl w rfl (by omega) (by decide) dX7_told_84 85 rfl ?_
                        refine g_goto C dX7_told_85 95 (by decide) ?_
                        exact g_iret C hQ (Nat.le_of_ble_eq_true rfl) (Nat.le_of_ble_eq_true rfl) dX7_told_95 (0) (Or.inr ⟨rfl, hrx, by rw [Gtold, if_neg (fun q => q.elim hk (by omega)), cN_nI (by omega), wfind_at hno (by simp [koff, c64]; omega) (by omega)]; dsimp only; rw [if_pos hcx]⟩) (by first | (dsimp only; done) | rfl)
                  · rw [show mv - 1 + 1 = mv by omega] at c64
                    refine g_goto C dX7_told_67 99 (by decide) ?_
                    refine g_iinc (v := nI (w + 1)) C dX7_told_99 102 rfl rfl (nI_add w 1) (by decide) [1, 2, 3, 4, 0] (lv' := [(0, .ref g0), (1, .int (nI k)), (2, .int x), (3, .int (nI (k - cnt (fun i => mon mk i mv) w))), (4, .int (nI (w + 1)))]) rfl ?_
                    refine g_goto C dX7_told_102 32 (by decide) ?_
                    rw [show cnt (fun i => mon mk i mv) w = cnt (fun i => mon mk i mv) (w + 1) from by simp only [cnt]; rw [if_pos c64]]
                    exact hloop_ih (w + 1) (by omega) (by omega) (by simp only [cnt]; rw [if_pos c64]; exact hck) (wfind_next hno (by simp [koff, c64]))
          refine g_lv [0, 1, 2, 3, 4] (lv' := [(0, .ref g0), (1, .int (nI k)), (2, .int x), (3, .int (nI (k - cnt (fun i => mon mk i mv) 0))), (4, .int (nI 0))]) rfl ?_
          exact hloop (mw + 1) 0 (by omega) (by omega) (Nat.zero_le k) rfl
    · exact absurd c22 (by omega)
  · refine g_iload_n C dX7_told_5 6 rfl rfl ?_
    refine g_iconst (v := nI 1) C dX7_told_6 7 rfl (by decide) ?_
    refine g_icmp_ne C dX7_told_7 14 10 (by decide) rfl (fun c7 => ?_) (fun c7 => ?_)
    · refine g_iconst (v := nI 1) C dX7_told_14 15 rfl (by decide) ?_
      refine g_put C (ty := .int) iw_X7_told_X7 tyX7 tyX7_ok nmX7 0 rfl rfl 0 (by decide) (by decide +kernel) rfl rfl (by decide +kernel) rfl rfl (Nat.le_of_ble_eq_true rfl) dX7_told_15 18 rfl (ws' := [(g0, .inr (11, [.int (nI 1), .int (nI mn), .ref g1, .ref g2, .int (nI mb), .ref g3, .ref g4, .ref g5, .int (nI mw), .ref g6, .ref g7, .ref g8, .ref g9, .ref g10, .long msa, .long msb, .ref g11, .ref g12, .ref g13, .ref g14, .ref g15, .int (nI mz), .ref g16, .ref g17, .ref g18, .int (nI mv), .ref g19, .int (nI my), .ref g20, .ref g21, .ref g22, .int wt, .int wr, .int fo])), (g6, .inl (cI, 24, .inl (fun jj => nI (qA jj)))), (g7, .inl (cI, 24, .inl (fun jj => nI (qB jj)))), (g19, .inl (cI, 144, .inl (fun jj => nI (mk jj))))]) rfl ?_
      refine g_aload_n C dX7_told_18 19 rfl rfl ?_
      refine g_get C iw_X7_told_X7 0 rfl rfl 0 (by decide) (by decide +kernel) rfl rfl dX7_told_19 22 rfl ?_
      refine g_if_eq_n C dX7_told_22 27 25 (by decide) rfl (by omega) (fun c22 => ?_) (fun c22 => ?_)
      · exact absurd c22 (by omega)
      · refine g_iconst (v := nI 0) C dX7_told_25 26 rfl (by decide) ?_
        exact g_iret C hQ (Nat.le_of_ble_eq_true rfl) (Nat.le_of_ble_eq_true rfl) dX7_told_26 (1) (Or.inl ⟨rfl, fun q => by obtain ⟨j, hj, rfl⟩ := q; rcases (show j = 0 ∨ j = 1 by omega) with e | e; subst e; exact c2 rfl; subst e; exact c7 rfl⟩) (by first | (dsimp only; done) | rfl)
    · refine g_iconst (v := nI 0) C dX7_told_10 11 rfl (by decide) ?_
      refine g_goto C dX7_told_11 15 (by decide) ?_
      refine g_put C (ty := .int) iw_X7_told_X7 tyX7 tyX7_ok nmX7 0 rfl rfl 0 (by decide) (by decide +kernel) rfl rfl (by decide +kernel) rfl rfl (Nat.le_of_ble_eq_true rfl) dX7_told_15 18 rfl (ws' := [(g0, .inr (11, [.int (nI 0), .int (nI mn), .ref g1, .ref g2, .int (nI mb), .ref g3, .ref g4, .ref g5, .int (nI mw), .ref g6, .ref g7, .ref g8, .ref g9, .ref g10, .long msa, .long msb, .ref g11, .ref g12, .ref g13, .ref g14, .ref g15, .int (nI mz), .ref g16, .ref g17, .ref g18, .int (nI mv), .ref g19, .int (nI my), .ref g20, .ref g21, .ref g22, .int wt, .int wr, .int fo])), (g6, .inl (cI, 24, .inl (fun jj => nI (qA jj)))), (g7, .inl (cI, 24, .inl (fun jj => nI (qB jj)))), (g19, .inl (cI, 144, .inl (fun jj => nI (mk jj))))]) rfl ?_
      refine g_aload_n C dX7_told_18 19 rfl rfl ?_
      refine g_get C iw_X7_told_X7 0 rfl rfl 0 (by decide) (by decide +kernel) rfl rfl dX7_told_19 22 rfl ?_
      refine g_if_eq_n C dX7_told_22 27 25 (by decide) rfl (by omega) (fun c22 => ?_) (fun c22 => ?_)
      · have hrx : inR x 2 := ⟨1, by omega, c7⟩
        have hcx : cN x = 1 := by rw [c7]; rfl
        rcases Decidable.em (k < 0) with hk | hk
        · refine g_iload_n C dX7_told_27 28 rfl rfl ?_
          refine g_istore_n C dX7_told_28 29 rfl (by decide) [1, 2, 3, 0] (lv' := [(0, .ref g0), (1, .int k), (2, .int x), (3, .int k)]) rfl ?_
          refine g_iconst (v := nI 0) C dX7_told_29 30 rfl (by decide) ?_
          refine g_istore C dX7_told_30 32 rfl (by decide) [1, 2, 3, 4, 0] (lv' := [(0, .ref g0), (1, .int k), (2, .int x), (3, .int k), (4, .int (nI 0))]) rfl ?_
          refine g_iload C dX7_told_32 34 rfl rfl ?_
          refine g_aload_n C dX7_told_34 35 rfl rfl ?_
          refine g_get C iw_X7_told_X7 0 rfl rfl 8 (by decide) (by decide +kernel) rfl rfl dX7_told_35 38 rfl ?_
          refine g_icmp_ge_n C dX7_told_38 105 41 (by decide) rfl (by omega) (by omega) (fun c38 => ?_) (fun c38 => ?_)
          · refine g_iconst (v := -1) C dX7_told_105 106 rfl (by decide) ?_
            exact g_iret C hQ (Nat.le_of_ble_eq_true rfl) (Nat.le_of_ble_eq_true rfl) dX7_told_106 (0) (Or.inr ⟨rfl, hrx, by rw [Gtold, if_pos (Or.inl hk)]⟩) (by first | (dsimp only; done) | rfl)
          · refine g_iload_n C dX7_told_41 42 rfl rfl ?_
            refine g_if_lt C dX7_told_42 105 45 (by decide) rfl (fun c42 => ?_) (fun c42 => ?_)
            · refine g_iconst (v := -1) C dX7_told_105 106 rfl (by decide) ?_
              exact g_iret C hQ (Nat.le_of_ble_eq_true rfl) (Nat.le_of_ble_eq_true rfl) dX7_told_106 (0) (Or.inr ⟨rfl, hrx, by rw [Gtold, if_pos (Or.inl hk)]⟩) (by first | (dsimp only; done) | rfl)
            · exact absurd hk c42
        · obtain ⟨k, hk2, rfl⟩ := nI_of hk
          rcases Nat.eq_zero_or_pos mv with hv0 | hv0
          · refine g_iload_n C dX7_told_27 28 rfl rfl ?_
            refine g_istore_n C dX7_told_28 29 rfl (by decide) [1, 2, 3, 0] (lv' := [(0, .ref g0), (1, .int (nI k)), (2, .int x), (3, .int (nI k))]) rfl ?_
            refine g_iconst (v := nI 0) C dX7_told_29 30 rfl (by decide) ?_
            refine g_istore C dX7_told_30 32 rfl (by decide) [1, 2, 3, 4, 0] (lv' := [(0, .ref g0), (1, .int (nI k)), (2, .int x), (3, .int (nI k)), (4, .int (nI 0))]) rfl ?_
            refine g_iload C dX7_told_32 34 rfl rfl ?_
            refine g_aload_n C dX7_told_34 35 rfl rfl ?_
            refine g_get C iw_X7_told_X7 0 rfl rfl 8 (by decide) (by decide +kernel) rfl rfl dX7_told_35 38 rfl ?_
            refine g_icmp_ge_n C dX7_told_38 105 41 (by decide) rfl (by omega) (by omega) (fun c38 => ?_) (fun c38 => ?_)
            · refine g_iconst (v := -1) C dX7_told_105 106 rfl (by decide) ?_
              exact g_iret C hQ (Nat.le_of_ble_eq_true rfl) (Nat.le_of_ble_eq_true rfl) dX7_told_106 (0) (Or.inr ⟨rfl, hrx, by rw [Gtold, if_pos (Or.inr hv0)]⟩) (by first | (dsimp only; done) | rfl)
            · refine g_iload_n C dX7_told_41 42 rfl rfl ?_
              refine g_if_lt_n C dX7_told_42 105 45 (by decide) rfl (by omega) ?_
              refine g_aload_n C dX7_told_45 46 rfl rfl ?_
              refine g_get C iw_X7_told_X7 0 rfl rfl 25 (by decide) (by decide +kernel) rfl rfl dX7_told_46 49 rfl ?_
              refine g_if_le_n C dX7_told_49 105 52 (by decide) rfl (by omega) (fun c49 => ?_) (fun c49 => ?_)
              · refine g_iconst (v := -1) C dX7_told_105 106 rfl (by decide) ?_
                exact g_iret C hQ (Nat.le_of_ble_eq_true rfl) (Nat.le_of_ble_eq_true rfl) dX7_told_106 (0) (Or.inr ⟨rfl, hrx, by rw [Gtold, if_pos (Or.inr hv0)]⟩) (by first | (dsimp only; done) | rfl)
              · exact absurd hv0 (by omega)
          · refine g_iload_n C dX7_told_27 28 rfl rfl ?_
            refine g_istore_n C dX7_told_28 29 rfl (by decide) [1, 2, 3, 0] (lv' := [(0, .ref g0), (1, .int (nI k)), (2, .int x), (3, .int (nI k))]) rfl ?_
            refine g_iconst (v := nI 0) C dX7_told_29 30 rfl (by decide) ?_
            refine g_istore C dX7_told_30 32 rfl (by decide) [1, 2, 3, 4, 0] (lv' := [(0, .ref g0), (1, .int (nI k)), (2, .int x), (3, .int (nI k)), (4, .int (nI 0))]) rfl ?_
            have hloop : ∀ (fuel w : Nat), w ≤ mw → mw + 1 ≤ w + fuel → (cnt (fun i => mon mk i mv) w ≤ k) → (wfind (koff (fun i => mon mk i mv) k) w = none) → gx X 0 0 [(g0, .inr (11, [.int (nI 0), .int (nI mn), .ref g1, .ref g2, .int (nI mb), .ref g3, .ref g4, .ref g5, .int (nI mw), .ref g6, .ref g7, .ref g8, .ref g9, .ref g10, .long msa, .long msb, .ref g11, .ref g12, .ref g13, .ref g14, .ref g15, .int (nI mz), .ref g16, .ref g17, .ref g18, .int (nI mv), .ref g19, .int (nI my), .ref g20, .ref g21, .ref g22, .int wt, .int wr, .int fo])), (g6, .inl (cI, 24, .inl (fun jj => nI (qA jj)))), (g7, .inl (cI, 24, .inl (fun jj => nI (qB jj)))), (g19, .inl (cI, 144, .inl (fun jj => nI (mk jj))))] 32 [(0, .ref g0), (1, .int (nI k)), (2, .int x), (3, .int (nI (k - cnt (fun i => mon mk i mv) w))), (4, .int (nI w))] [] := by
              intro fuel
              induction fuel with
              | zero => intro w h1 h2; exact absurd h2 (by omega)
              | succ fuel hloop_ih =>
                intro w hle hfu hck hno
                refine g_iload C dX7_told_32 34 rfl rfl ?_
                refine g_aload_n C dX7_told_34 35 rfl rfl ?_
                refine g_get C iw_X7_told_X7 0 rfl rfl 8 (by decide) (by decide +kernel) rfl rfl dX7_told_35 38 rfl ?_
                refine g_icmp_ge_n C dX7_told_38 105 41 (by decide) rfl (by omega) (by omega) (fun c38 => ?_) (fun c38 => ?_)
                · have e_w : mw = w := by omega
                  subst e_w
                  refine g_iconst (v := -1) C dX7_told_105 106 rfl (by decide) ?_
                  exact g_iret C hQ (Nat.le_of_ble_eq_true rfl) (Nat.le_of_ble_eq_true rfl) dX7_told_106 (0) (Or.inr ⟨rfl, hrx, by rw [Gtold, if_neg (fun q => q.elim hk (by omega)), cN_nI (by omega), hno]⟩) (by first | (dsimp only; done) | rfl)
                · refine g_iload_n C dX7_told_41 42 rfl rfl ?_
                  refine g_if_lt_n C dX7_told_42 105 45 (by decide) rfl (by omega) ?_
                  refine g_aload_n C dX7_told_45 46 rfl rfl ?_
                  refine g_get C iw_X7_told_X7 0 rfl rfl 25 (by decide) (by decide +kernel) rfl rfl dX7_told_46 49 rfl ?_
                  refine g_if_le_n C dX7_told_49 105 52 (by decide) rfl (by omega) (fun c49 => ?_) (fun c49 => ?_)
                  · exact absurd c49 (by omega)
                  · have hcn := cnt_le (fun i => mon mk i mv) w
                    refine g_aload_n C dX7_told_52 53 rfl rfl ?_
                    refine g_aload_n C dX7_told_53 54 rfl rfl ?_
                    refine g_get C iw_X7_told_X7 0 rfl rfl 25 (by decide) (by decide +kernel) rfl rfl dX7_told_54 57 rfl ?_
                    refine g_iconst (v := nI 1) C dX7_told_57 58 rfl (by decide) ?_
                    refine g_isubn C dX7_told_58 59 rfl (by omega) ?_
                    refine g_iload C dX7_told_59 61 rfl rfl ?_
                    refine g_callVi (ci := 11) (q0 := 0) (As := [.int (nI (mv - 1)), .int (nI w)]) (rest := []) (wr := [(g6, .inl (cI, 24, .inl (fun jj => nI (qA jj)))), (g7, .inl (cI, 24, .inl (fun jj => nI (qB jj))))]) (ws' := fun (_ : Unit) => [(g0, .inr (11, [.int (nI 0), .int (nI mn), .ref g1, .ref g2, .int (nI mb), .ref g3, .ref g4, .ref g5, .int (nI mw), .ref g6, .ref g7, .ref g8, .ref g9, .ref g10, .long msa, .long msb, .ref g11, .ref g12, .ref g13, .ref g14, .ref g15, .int (nI mz), .ref g16, .ref g17, .ref g18, .int (nI mv), .ref g19, .int (nI my), .ref g20, .ref g21, .ref g22, .int wt, .int wr, .int fo])), (g6, .inl (cI, 24, .inl (fun jj => nI (qA jj)))), (g7, .inl (cI, 24, .inl (fun jj => nI (qB jj)))), (g19, .inl (cI, 144, .inl (fun jj => nI (mk jj))))]) C (fun sz => c_X7_isOn _ _ cI cJ cB cZ sz g0 g1 g2 g3 g4 g5 g6 g7 g8 g9 g10 g11 g12 g13 g14 g15 g16 g17 g18 g19 g20 g21 g22 0 mn mb mw mz mv my msa msb wt wr fo mk (mv - 1) w (by omega) (by omega) hmk) gx_XP0 2 gX7_told_X7_isOn rfl rfl rfl (by decide +kernel) ⟨Nat.le_of_ble_eq_true rfl, Nat.le_of_ble_eq_true rfl⟩ rfl rfl [0, 3] [1, 2] [2, 0, 1, 3] rfl (by decide) rfl (by decide) (by decide) (fun _ => rfl) (by decide) rfl rfl (Nat.le_of_ble_eq_true rfl) dX7_told_61 ⟨Nat.le_of_ble_eq_true rfl, Nat.le_of_ble_eq_true rfl⟩ 64 rfl (eqk ?_)
                    refine g_if_eq_b C dX7_told_64 70 67 (by decide) rfl (fun c64 => ?_) (fun c64 => ?_)
                    · rw [show mv - 1 + 1 = mv by omega] at c64
                      refine g_iload_n C dX7_told_70 71 rfl rfl ?_
                      refine g_if_ne_n C dX7_told_71 96 74 (by decide) rfl (by omega) (fun c71 => ?_) (fun c71 => ?_)
                      · refine g_iinc (v := nI ((k - cnt (fun i => mon mk i mv) w) - 1)) C dX7_told_96 99 rfl rfl (nI_dec (k - cnt (fun i => mon mk i mv) w) (by omega)) (by decide) [1, 2, 3, 0, 4] (lv' := [(0, .ref g0), (1, .int (nI k)), (2, .int x), (3, .int (nI ((k - cnt (fun i => mon mk i mv) w) - 1))), (4, .int (nI w))]) rfl ?_
                        refine g_iinc (v := nI (w + 1)) C dX7_told_99 102 rfl rfl (nI_add w 1) (by decide) [1, 2, 3, 4, 0] (lv' := [(0, .ref g0), (1, .int (nI k)), (2, .int x), (3, .int (nI ((k - cnt (fun i => mon mk i mv) w) - 1))), (4, .int (nI (w + 1)))]) rfl ?_
                        refine g_goto C dX7_told_102 32 (by decide) ?_
                        rw [show k - cnt (fun i => mon mk i mv) w - 1 = k - cnt (fun i => mon mk i mv) (w + 1) from by simp only [cnt]; rw [if_neg (by rw [c64]; decide)]; omega]
                        exact hloop_ih (w + 1) (by omega) (by omega) (by simp only [cnt]; rw [if_neg (by rw [c64]; decide)]; omega) (wfind_next hno (by simp [koff, c64]; omega))
                      · refine g_iload_n C dX7_told_74 75 rfl rfl ?_
                        refine g_if_ne C dX7_told_75 88 78 (by decide) rfl (fun c75 => ?_) (fun c75 => ?_)
                        · refine g_aload_n C dX7_told_88 89 rfl rfl ?_
                          refine g_get C iw_X7_told_X7 0 rfl rfl 10 (by decide) (by decide +kernel) rfl rfl dX7_told_89 92 rfl ?_
                          refine g_iload C dX7_told_92 94 rfl rfl ?_
                          refine g_iald C 2 0 rfl rfl w rfl (by omega) (by decide) dX7_told_94 95 rfl ?_
                          exact g_iret C hQ (Nat.le_of_ble_eq_true rfl) (Nat.le_of_ble_eq_true rfl) dX7_told_95 (0) (Or.inr ⟨rfl, hrx, by rw [Gtold, if_neg (fun q => q.elim hk (by omega)), cN_nI (by omega), wfind_at hno (by simp [koff, c64]; omega) (by omega)]; dsimp only; rw [if_neg (by rw [hcx]; decide)]⟩) (by first | (dsimp only; done) | rfl)
                        · exact absurd (c75.symm.trans c7) (by decide)
                    · rw [show mv - 1 + 1 = mv by omega] at c64
                      refine g_goto C dX7_told_67 99 (by decide) ?_
                      refine g_iinc (v := nI (w + 1)) C dX7_told_99 102 rfl rfl (nI_add w 1) (by decide) [1, 2, 3, 4, 0] (lv' := [(0, .ref g0), (1, .int (nI k)), (2, .int x), (3, .int (nI (k - cnt (fun i => mon mk i mv) w))), (4, .int (nI (w + 1)))]) rfl ?_
                      refine g_goto C dX7_told_102 32 (by decide) ?_
                      rw [show cnt (fun i => mon mk i mv) w = cnt (fun i => mon mk i mv) (w + 1) from by simp only [cnt]; rw [if_pos c64]]
                      exact hloop_ih (w + 1) (by omega) (by omega) (by simp only [cnt]; rw [if_pos c64]; exact hck) (wfind_next hno (by simp [koff, c64]))
            refine g_lv [0, 1, 2, 3, 4] (lv' := [(0, .ref g0), (1, .int (nI k)), (2, .int x), (3, .int (nI (k - cnt (fun i => mon mk i mv) 0))), (4, .int (nI 0))]) rfl ?_
            exact hloop (mw + 1) 0 (by omega) (by omega) (Nat.zero_le k) rfl
      · exact absurd c22 (by omega)
