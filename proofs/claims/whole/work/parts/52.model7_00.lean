theorem iw_X7_fits_X7 : ∀ w ∈ wsX70, w ∈ wsX7_fits := by decide +kernel
set_option maxHeartbeats 4000000 in
set_option maxRecDepth 100000 in
theorem c_X7_fits (l : Launch) (D : va_G) (cI cJ cB cZ : ClassId) (sz : Nat) (g0 : Nat) (g1 : Nat) (g2 : Nat) (g3 : Nat) (g4 : Nat) (g5 : Nat) (g6 : Nat) (g7 : Nat) (g8 : Nat) (g9 : Nat) (g10 : Nat) (g11 : Nat) (g12 : Nat) (g13 : Nat) (g14 : Nat) (g15 : Nat) (g16 : Nat) (g17 : Nat) (g18 : Nat) (g19 : Nat) (g20 : Nat) (g21 : Nat) (g22 : Nat) (th : Nat) (mn : Nat) (mb : Nat) (mw : Nat) (mz : Nat) (mv : Nat) (my : Nat) (msa : Int64) (msb : Int64) (wt : Int32) (wr : Int32) (fo : Int32) (fa : Nat → Int64) (qA : Nat → Nat) (qB : Nat → Nat) (pk : Nat → Nat) (ti : Nat → Int32) (us : Nat → Int64) (n : Nat) (lim : Int64) (hmw : mw ≤ 24) (hA : ∀ k, k < mw → qA k < 256) (hB : ∀ k, k < mw → qB k < 256) (hmy : my ≤ 8) (hm0 : 0 < my) (hpk : ∀ k, k < my → pk k < mw) (hsb : ¬ msb = 0) (hn : n ≤ 24) : Met l yX7_fits wsX7_fits ({ frames := 1, cells := 0, slots := 0, locals := 23 }) (va_Pc [.ref g0, .int (nI n), .long lim] (pW D (TY cI cJ cB cZ) [(g0, .inr (11, [.int (nI th), .int (nI mn), .ref g1, .ref g2, .int (nI mb), .ref g3, .ref g4, .ref g5, .int (nI mw), .ref g6, .ref g7, .ref g8, .ref g9, .ref g10, .long msa, .long msb, .ref g11, .ref g12, .ref g13, .ref g14, .ref g15, .int (nI mz), .ref g16, .ref g17, .ref g18, .int (nI mv), .ref g19, .int (nI my), .ref g20, .ref g21, .ref g22, .int wt, .int wr, .int fo])), (g2, .inl (cJ, 256, .inr (.inl fa))), (g6, .inl (cI, 24, .inl (fun jj => nI (qA jj)))), (g7, .inl (cI, 24, .inl (fun jj => nI (qB jj)))), (g20, .inl (cI, 24, .inl (fun jj => nI (pk jj)))), (g21, .inl (cI, 24, .inl ti)), (g22, .inl (cJ, 24, .inr (.inl us)))] (fun _ => True) sz)) (va_Qi (fun (rv : Int32) (u : (Nat → Int32) × (Nat → Int64)) => (rv = 1 ∧ ∃ a, ff n lim (fun kk => (lenO fa qA qB msa msb) (pk kk)) my 0 (fllL us 0 24) (fun _ => 0) = some a ∧ ∀ i, i < my → u.1 i = nI (a i)) ∨ (rv = 0 ∧ ff n lim (fun kk => (lenO fa qA qB msa msb) (pk kk)) my 0 (fllL us 0 24) (fun _ => 0) = none)) (qW D (TY cI cJ cB cZ) (va_A [(g0, .inr (11, [.int (nI th), .int (nI mn), .ref g1, .ref g2, .int (nI mb), .ref g3, .ref g4, .ref g5, .int (nI mw), .ref g6, .ref g7, .ref g8, .ref g9, .ref g10, .long msa, .long msb, .ref g11, .ref g12, .ref g13, .ref g14, .ref g15, .int (nI mz), .ref g16, .ref g17, .ref g18, .int (nI mv), .ref g19, .int (nI my), .ref g20, .ref g21, .ref g22, .int wt, .int wr, .int fo])), (g2, .inl (cJ, 256, .inr (.inl fa))), (g6, .inl (cI, 24, .inl (fun jj => nI (qA jj)))), (g7, .inl (cI, 24, .inl (fun jj => nI (qB jj)))), (g20, .inl (cI, 24, .inl (fun jj => nI (pk jj)))), (g21, .inl (cI, 24, .inl ti)), (g22, .inl (cJ, 24, .inr (.inl us)))] sz) (fun u => [(g0, .inr (11, [.int (nI th), .int (nI mn), .ref g1, .ref g2, .int (nI mb), .ref g3, .ref g4, .ref g5, .int (nI mw), .ref g6, .ref g7, .ref g8, .ref g9, .ref g10, .long msa, .long msb, .ref g11, .ref g12, .ref g13, .ref g14, .ref g15, .int (nI mz), .ref g16, .ref g17, .ref g18, .int (nI mv), .ref g19, .int (nI my), .ref g20, .ref g21, .ref g22, .int wt, .int wr, .int fo])), (g2, .inl (cJ, 256, .inr (.inl fa))), (g6, .inl (cI, 24, .inl (fun jj => nI (qA jj)))), (g7, .inl (cI, 24, .inl (fun jj => nI (qB jj)))), (g20, .inl (cI, 24, .inl (fun jj => nI (pk jj)))), (g21, .inl (cI, 24, .inl u.1)), (g22, .inl (cJ, 24, .inr (.inl u.2)))])) (va_A [(g0, .inr (11, [.int (nI th), .int (nI mn), .ref g1, .ref g2, .int (nI mb), .ref g3, .ref g4, .ref g5, .int (nI mw), .ref g6, .ref g7, .ref g8, .ref g9, .ref g10, .long msa, .long msb, .ref g11, .ref g12, .ref g13, .ref g14, .ref g15, .int (nI mz), .ref g16, .ref g17, .ref g18, .int (nI mv), .ref g19, .int (nI my), .ref g20, .ref g21, .ref g22, .int wt, .int wr, .int fo])), (g2, .inl (cJ, 256, .inr (.inl fa))), (g6, .inl (cI, 24, .inl (fun jj => nI (qA jj)))), (g7, .inl (cI, 24, .inl (fun jj => nI (qB jj)))), (g20, .inl (cI, 24, .inl (fun jj => nI (pk jj)))), (g21, .inl (cI, 24, .inl ti)), (g22, .inl (cJ, 24, .inr (.inl us)))] sz)) 0 0 (va_A [(g0, .inr (11, [.int (nI th), .int (nI mn), .ref g1, .ref g2, .int (nI mb), .ref g3, .ref g4, .ref g5, .int (nI mw), .ref g6, .ref g7, .ref g8, .ref g9, .ref g10, .long msa, .long msb, .ref g11, .ref g12, .ref g13, .ref g14, .ref g15, .int (nI mz), .ref g16, .ref g17, .ref g18, .int (nI mv), .ref g19, .int (nI my), .ref g20, .ref g21, .ref g22, .int wt, .int wr, .int fo])), (g2, .inl (cJ, 256, .inr (.inl fa))), (g6, .inl (cI, 24, .inl (fun jj => nI (qA jj)))), (g7, .inl (cI, 24, .inl (fun jj => nI (qB jj)))), (g20, .inl (cI, 24, .inl (fun jj => nI (pk jj)))), (g21, .inl (cI, 24, .inl ti)), (g22, .inl (cJ, 24, .inr (.inl us)))] sz) := by
  refine gx_met RX7 rfl (by decide) rfl (Nat.le_of_ble_eq_true rfl) ?_
  intro X hl hDx hAx C hQ hXP hsz hin
  subst hl; subst hDx
  rw [← hAx] at hQ
  refine g_lv [0, 1, 2] (lv' := [(0, .ref g0), (1, .int (nI n)), (2, .long lim)]) rfl ?_
  refine g_iconst (v := nI 0) C dX7_fits_0 1 rfl (by decide) ?_
  refine g_istore C dX7_fits_1 3 rfl (by decide) [1, 2, 3, 0] (lv' := [(0, .ref g0), (1, .int (nI n)), (2, .long lim), (4, .int (nI 0))]) rfl ?_
  have hz0 : ∀ (fuel z : Nat), z ≤ 24 → 24 + 1 ≤ z + fuel → gx X 0 0 [(g0, .inr (11, [.int (nI th), .int (nI mn), .ref g1, .ref g2, .int (nI mb), .ref g3, .ref g4, .ref g5, .int (nI mw), .ref g6, .ref g7, .ref g8, .ref g9, .ref g10, .long msa, .long msb, .ref g11, .ref g12, .ref g13, .ref g14, .ref g15, .int (nI mz), .ref g16, .ref g17, .ref g18, .int (nI mv), .ref g19, .int (nI my), .ref g20, .ref g21, .ref g22, .int wt, .int wr, .int fo])), (g2, .inl (cJ, 256, .inr (.inl fa))), (g6, .inl (cI, 24, .inl (fun jj => nI (qA jj)))), (g7, .inl (cI, 24, .inl (fun jj => nI (qB jj)))), (g20, .inl (cI, 24, .inl (fun jj => nI (pk jj)))), (g21, .inl (cI, 24, .inl ti)), (g22, .inl (cJ, 24, .inr (.inl (fllL us 0 z))))] 3 [(0, .ref g0), (1, .int (nI n)), (2, .long lim), (4, .int (nI z))] [] := by
    intro fuel
    induction fuel with
    | zero => intro z h1 h2; exact absurd h2 (by omega)
    | succ fuel hz0_ih =>
      intro z hle hfu
      refine g_iload C dX7_fits_3 5 rfl rfl ?_
      refine g_bipush (v := nI 24) C dX7_fits_5 7 rfl (by decide) ?_
      refine g_icmp_ge_n C dX7_fits_7 24 10 (by decide) rfl (by omega) (by omega) (fun c7 => ?_) (fun c7 => ?_)
      · have e_z : 24 = z := by omega
        subst e_z
        refine g_iconst (v := nI 0) C dX7_fits_24 25 rfl (by decide) ?_
        refine g_istore C dX7_fits_25 27 rfl (by decide) [1, 2, 3, 0] (lv' := [(0, .ref g0), (1, .int (nI n)), (2, .long lim), (4, .int (nI 0))]) rfl ?_
        refine g_aload_n C dX7_fits_27 28 rfl rfl ?_
        refine g_get C iw_X7_fits_X7 0 rfl rfl 29 (by decide) (by decide +kernel) rfl rfl dX7_fits_28 31 rfl ?_
        refine g_iconst (v := nI 0) C dX7_fits_31 32 rfl (by decide) ?_
        refine g_iconst (v := -1) C dX7_fits_32 33 rfl (by decide) ?_
        refine g_iast C 5 0 rfl rfl 0 rfl (by omega) (by decide) dX7_fits_33 34 rfl (ws' := [(g0, .inr (11, [.int (nI th), .int (nI mn), .ref g1, .ref g2, .int (nI mb), .ref g3, .ref g4, .ref g5, .int (nI mw), .ref g6, .ref g7, .ref g8, .ref g9, .ref g10, .long msa, .long msb, .ref g11, .ref g12, .ref g13, .ref g14, .ref g15, .int (nI mz), .ref g16, .ref g17, .ref g18, .int (nI mv), .ref g19, .int (nI my), .ref g20, .ref g21, .ref g22, .int wt, .int wr, .int fo])), (g2, .inl (cJ, 256, .inr (.inl fa))), (g6, .inl (cI, 24, .inl (fun jj => nI (qA jj)))), (g7, .inl (cI, 24, .inl (fun jj => nI (qB jj)))), (g20, .inl (cI, 24, .inl (fun jj => nI (pk jj)))), (g21, .inl (cI, 24, .inl (upd ti 0 (-1)))), (g22, .inl (cJ, 24, .inr (.inl (fllL us 0 24))))]) rfl ?_
        have hs : ∀ (d k : Nat) (tn : Nat → Nat) (b0 : Nat → Int64) (t : Nat → Int32), k + d = my → (∀ i, i < k → t i = nI (tn i)) → (∀ i, i < k → tn i ≤ i) → (k < my → t k = -1) → (∀ (a : Nat → Nat) (t' : Nat → Int32) (u' : Nat → Int64), ff n lim (fun kk => (lenO fa qA qB msa msb) (pk kk)) d k b0 tn = some a → (∀ i, i < my → t' i = nI (a i)) → gx X 0 0 [(g0, .inr (11, [.int (nI th), .int (nI mn), .ref g1, .ref g2, .int (nI mb), .ref g3, .ref g4, .ref g5, .int (nI mw), .ref g6, .ref g7, .ref g8, .ref g9, .ref g10, .long msa, .long msb, .ref g11, .ref g12, .ref g13, .ref g14, .ref g15, .int (nI mz), .ref g16, .ref g17, .ref g18, .int (nI mv), .ref g19, .int (nI my), .ref g20, .ref g21, .ref g22, .int wt, .int wr, .int fo])), (g2, .inl (cJ, 256, .inr (.inl fa))), (g6, .inl (cI, 24, .inl (fun jj => nI (qA jj)))), (g7, .inl (cI, 24, .inl (fun jj => nI (qB jj)))), (g20, .inl (cI, 24, .inl (fun jj => nI (pk jj)))), (g21, .inl (cI, 24, .inl t')), (g22, .inl (cJ, 24, .inr (.inl u')))] 34 [(0, .ref g0), (1, .int (nI n)), (2, .long lim), (4, .int (nI my))] []) → (∀ (t' : Nat → Int32), ff n lim (fun kk => (lenO fa qA qB msa msb) (pk kk)) d k b0 tn = none → (∀ i, i < k → t' i = t i) → gx X 0 0 [(g0, .inr (11, [.int (nI th), .int (nI mn), .ref g1, .ref g2, .int (nI mb), .ref g3, .ref g4, .ref g5, .int (nI mw), .ref g6, .ref g7, .ref g8, .ref g9, .ref g10, .long msa, .long msb, .ref g11, .ref g12, .ref g13, .ref g14, .ref g15, .int (nI mz), .ref g16, .ref g17, .ref g18, .int (nI mv), .ref g19, .int (nI my), .ref g20, .ref g21, .ref g22, .int wt, .int wr, .int fo])), (g2, .inl (cJ, 256, .inr (.inl fa))), (g6, .inl (cI, 24, .inl (fun jj => nI (qA jj)))), (g7, .inl (cI, 24, .inl (fun jj => nI (qB jj)))), (g20, .inl (cI, 24, .inl (fun jj => nI (pk jj)))), (g21, .inl (cI, 24, .inl t')), (g22, .inl (cJ, 24, .inr (.inl b0)))] 34 [(0, .ref g0), (1, .int (nI n)), (2, .long lim), (4, .int (nI k + (-1)))] []) → gx X 0 0 [(g0, .inr (11, [.int (nI th), .int (nI mn), .ref g1, .ref g2, .int (nI mb), .ref g3, .ref g4, .ref g5, .int (nI mw), .ref g6, .ref g7, .ref g8, .ref g9, .ref g10, .long msa, .long msb, .ref g11, .ref g12, .ref g13, .ref g14, .ref g15, .int (nI mz), .ref g16, .ref g17, .ref g18, .int (nI mv), .ref g19, .int (nI my), .ref g20, .ref g21, .ref g22, .int wt, .int wr, .int fo])), (g2, .inl (cJ, 256, .inr (.inl fa))), (g6, .inl (cI, 24, .inl (fun jj => nI (qA jj)))), (g7, .inl (cI, 24, .inl (fun jj => nI (qB jj)))), (g20, .inl (cI, 24, .inl (fun jj => nI (pk jj)))), (g21, .inl (cI, 24, .inl t)), (g22, .inl (cJ, 24, .inr (.inl b0)))] 34 [(0, .ref g0), (1, .int (nI n)), (2, .long lim), (4, .int (nI k))] [] := by
          intro d
          induction d with
          | zero =>
            intro k tn b0 t hk ht hti h1 hS hF
            have e9 : k = my := by omega
            rw [e9]; exact hS tn t b0 rfl (fun i hi => ht i (by omega))
          | succ d ihd =>
            intro k tn b0 t hk ht hti h1 hS hF
            have htp : tpo tn k ≤ k := tpo_le tn k k (fun i hi => by have := hti i hi; omega)
            have hpk1 := hpk k (by omega)
            have hin : ∀ (fuel r0 : Nat) (t2 : Nat → Int32), r0 ≤ tpo tn k + 1 → tpo tn k + 2 ≤ r0 + fuel → (∀ i, i < k → t2 i = t i) → t2 k = rI r0 → ff n lim (fun kk => (lenO fa qA qB msa msb) (pk kk)) (d + 1) k b0 tn = ffs (ffg n lim (fun kk => (lenO fa qA qB msa msb) (pk kk)) d k b0 tn) (tpo tn k + 1 - r0) r0 → gx X 0 0 [(g0, .inr (11, [.int (nI th), .int (nI mn), .ref g1, .ref g2, .int (nI mb), .ref g3, .ref g4, .ref g5, .int (nI mw), .ref g6, .ref g7, .ref g8, .ref g9, .ref g10, .long msa, .long msb, .ref g11, .ref g12, .ref g13, .ref g14, .ref g15, .int (nI mz), .ref g16, .ref g17, .ref g18, .int (nI mv), .ref g19, .int (nI my), .ref g20, .ref g21, .ref g22, .int wt, .int wr, .int fo])), (g2, .inl (cJ, 256, .inr (.inl fa))), (g6, .inl (cI, 24, .inl (fun jj => nI (qA jj)))), (g7, .inl (cI, 24, .inl (fun jj => nI (qB jj)))), (g20, .inl (cI, 24, .inl (fun jj => nI (pk jj)))), (g21, .inl (cI, 24, .inl t2)), (g22, .inl (cJ, 24, .inr (.inl (bB b0 ((lenO fa qA qB msa msb) (pk k)) r0))))] 34 [(0, .ref g0), (1, .int (nI n)), (2, .long lim), (4, .int (nI k))] [] := by
              intro fuel
              induction fuel with
              | zero => intro r0 t2 h1 h2; exact absurd h2 (by omega)
              | succ fuel ihr =>
                intro r0 t2 hr0 hfu hag htk heq
                cases r0 with
                | zero =>
                  rw [show bB b0 ((lenO fa qA qB msa msb) (pk k)) 0 = b0 from rfl]
                  have htk1 : t2 k = -1 := htk
                  refine g_iload C dX7_fits_34 36 rfl rfl ?_
                  refine g_if_lt_n C dX7_fits_36 199 39 (by decide) rfl (by omega) ?_
                  refine g_iload C dX7_fits_39 41 rfl rfl ?_
                  refine g_aload_n C dX7_fits_41 42 rfl rfl ?_
                  refine g_get C iw_X7_fits_X7 0 rfl rfl 27 (by decide) (by decide +kernel) rfl rfl dX7_fits_42 45 rfl ?_
                  refine g_icmp_ge_n C dX7_fits_45 199 48 (by decide) rfl (by omega) (by omega) (fun c45 => ?_) (fun c45 => ?_)
                  · exact absurd c45 (by omega)
                  · refine g_aload_n C dX7_fits_48 49 rfl rfl ?_
                    refine g_aload_n C dX7_fits_49 50 rfl rfl ?_
                    refine g_get C iw_X7_fits_X7 0 rfl rfl 28 (by decide) (by decide +kernel) rfl rfl dX7_fits_50 53 rfl ?_
                    refine g_iload C dX7_fits_53 55 rfl rfl ?_
                    refine g_iald C 4 0 rfl rfl k rfl (by omega) (by decide) dX7_fits_55 56 rfl ?_
                    refine g_callVl (ci := 11) (q0 := 0) (As := [.int (nI (pk k))]) (rest := []) (wr := [(g20, .inl (cI, 24, .inl (fun jj => nI (pk jj)))), (g21, .inl (cI, 24, .inl t2)), (g22, .inl (cJ, 24, .inr (.inl b0)))]) (ws' := fun (_ : Unit) => [(g0, .inr (11, [.int (nI th), .int (nI mn), .ref g1, .ref g2, .int (nI mb), .ref g3, .ref g4, .ref g5, .int (nI mw), .ref g6, .ref g7, .ref g8, .ref g9, .ref g10, .long msa, .long msb, .ref g11, .ref g12, .ref g13, .ref g14, .ref g15, .int (nI mz), .ref g16, .ref g17, .ref g18, .int (nI mv), .ref g19, .int (nI my), .ref g20, .ref g21, .ref g22, .int wt, .int wr, .int fo])), (g2, .inl (cJ, 256, .inr (.inl fa))), (g6, .inl (cI, 24, .inl (fun jj => nI (qA jj)))), (g7, .inl (cI, 24, .inl (fun jj => nI (qB jj)))), (g20, .inl (cI, 24, .inl (fun jj => nI (pk jj)))), (g21, .inl (cI, 24, .inl t2)), (g22, .inl (cJ, 24, .inr (.inl b0)))]) C (fun sz => c_X7_lengthOf _ _ cI cJ cB cZ sz g0 g1 g2 g3 g4 g5 g6 g7 g8 g9 g10 g11 g12 g13 g14 g15 g16 g17 g18 g19 g20 g21 g22 th mn mb mw mz mv my msa msb wt wr fo fa qA qB (pk k) (by omega) (hA (pk k) (by omega)) (hB (pk k) (by omega)) hsb) gx_XP0 1 gX7_fits_X7_lengthOf rfl rfl rfl (by decide +kernel) ⟨Nat.le_of_ble_eq_true rfl, Nat.le_of_ble_eq_true rfl⟩ rfl rfl [0, 1, 2, 3] [4, 5, 6] [3, 4, 5, 6, 0, 1, 2] rfl (by decide) rfl (by decide) (by decide) (fun _ => rfl) (by decide) rfl rfl (Nat.le_of_ble_eq_true rfl) dX7_fits_56 ⟨Nat.le_of_ble_eq_true rfl, Nat.le_of_ble_eq_true rfl⟩ 59 rfl (eqk ?_)
                    refine g_lstore C dX7_fits_59 61 rfl (by decide) [1, 2, 3, 4, 0] (lv' := [(0, .ref g0), (1, .int (nI n)), (2, .long lim), (4, .int (nI k)), (5, .long (lenO fa qA qB msa msb (pk k)))]) rfl ?_
                    refine g_aload_n C dX7_fits_61 62 rfl rfl ?_
                    refine g_get C iw_X7_fits_X7 0 rfl rfl 29 (by decide) (by decide +kernel) rfl rfl dX7_fits_62 65 rfl ?_
                    refine g_iload C dX7_fits_65 67 rfl rfl ?_
                    refine g_iald C 5 0 rfl rfl k rfl (by omega) (by decide) dX7_fits_67 68 rfl ?_
                    refine g_topi (-1) htk1 ?_
                    refine g_iconst (v := -1) C dX7_fits_68 69 rfl (by decide) ?_
                    refine g_icmp_eq C dX7_fits_69 89 72 (by decide) rfl (fun c69 => ?_) (fun c69 => ?_)
                    · refine g_aload_n C dX7_fits_89 90 rfl rfl ?_
                      refine g_iload C dX7_fits_90 92 rfl rfl ?_
                      refine g_callVi (ci := 11) (q0 := 0) (As := [.int (nI k)]) (rest := []) (wr := [(g2, .inl (cJ, 256, .inr (.inl fa))), (g6, .inl (cI, 24, .inl (fun jj => nI (qA jj)))), (g7, .inl (cI, 24, .inl (fun jj => nI (qB jj)))), (g20, .inl (cI, 24, .inl (fun jj => nI (pk jj)))), (g22, .inl (cJ, 24, .inr (.inl b0)))]) (ws' := fun (_ : Unit) => [(g0, .inr (11, [.int (nI th), .int (nI mn), .ref g1, .ref g2, .int (nI mb), .ref g3, .ref g4, .ref g5, .int (nI mw), .ref g6, .ref g7, .ref g8, .ref g9, .ref g10, .long msa, .long msb, .ref g11, .ref g12, .ref g13, .ref g14, .ref g15, .int (nI mz), .ref g16, .ref g17, .ref g18, .int (nI mv), .ref g19, .int (nI my), .ref g20, .ref g21, .ref g22, .int wt, .int wr, .int fo])), (g2, .inl (cJ, 256, .inr (.inl fa))), (g6, .inl (cI, 24, .inl (fun jj => nI (qA jj)))), (g7, .inl (cI, 24, .inl (fun jj => nI (qB jj)))), (g20, .inl (cI, 24, .inl (fun jj => nI (pk jj)))), (g21, .inl (cI, 24, .inl t2)), (g22, .inl (cJ, 24, .inr (.inl b0)))]) C (fun sz => c_X7_topOf _ _ cI cJ cB cZ sz g0 g1 g2 g3 g4 g5 g6 g7 g8 g9 g10 g11 g12 g13 g14 g15 g16 g17 g18 g19 g20 g21 g22 th mn mb mw mz mv my msa msb wt wr fo t2 tn k (by omega) (fun i hi => (hag i hi).trans (ht i hi)) (fun i hi => by have := hti i hi; omega)) gx_XP0 1 gX7_fits_X7_topOf rfl rfl rfl (by decide +kernel) ⟨Nat.le_of_ble_eq_true rfl, Nat.le_of_ble_eq_true rfl⟩ rfl rfl [0, 5] [1, 2, 3, 4, 6] [5, 0, 1, 2, 3, 6, 4] rfl (by decide) rfl (by decide) (by decide) (fun _ => rfl) (by decide) rfl rfl (Nat.le_of_ble_eq_true rfl) dX7_fits_92 ⟨Nat.le_of_ble_eq_true rfl, Nat.le_of_ble_eq_true rfl⟩ 95 rfl (eqk ?_)
                      refine g_istore C dX7_fits_95 97 rfl (by decide) [1, 2, 3, 4, 5, 0] (lv' := [(0, .ref g0), (1, .int (nI n)), (2, .long lim), (4, .int (nI k)), (5, .long (lenO fa qA qB msa msb (pk k))), (7, .int (nI (tpo tn k)))]) rfl ?_
                      refine g_aload_n C dX7_fits_97 98 rfl rfl ?_
                      refine g_get C iw_X7_fits_X7 0 rfl rfl 29 (by decide) (by decide +kernel) rfl rfl dX7_fits_98 101 rfl ?_
                      refine g_iload C dX7_fits_101 103 rfl rfl ?_
                      refine g_iald C 5 0 rfl rfl k rfl (by omega) (by decide) dX7_fits_103 104 rfl ?_
                      refine g_topi (-1) htk1 ?_
                      refine g_iconst (v := nI 1) C dX7_fits_104 105 rfl (by decide) ?_
                      refine g_iadd C dX7_fits_105 106 rfl ?_
                      refine g_topi (nI 0) (by decide) ?_
                      refine g_istore C dX7_fits_106 108 rfl (by decide) [1, 2, 3, 4, 5, 6, 0] (lv' := [(0, .ref g0), (1, .int (nI n)), (2, .long lim), (4, .int (nI k)), (5, .long (lenO fa qA qB msa msb (pk k))), (7, .int (nI (tpo tn k))), (8, .int (nI 0))]) rfl ?_
                      have hr8 : ∀ (fuel r : Nat), r ≤ (tpo tn k + 1) → (tpo tn k + 1) + 1 ≤ r + fuel → (ff n lim (fun kk => (lenO fa qA qB msa msb) (pk kk)) (d + 1) k b0 tn = ffs (ffg n lim (fun kk => (lenO fa qA qB msa msb) (pk kk)) d k b0 tn) (tpo tn k + 1 - r) r) → (0 ≤ r) → gx X 0 0 [(g0, .inr (11, [.int (nI th), .int (nI mn), .ref g1, .ref g2, .int (nI mb), .ref g3, .ref g4, .ref g5, .int (nI mw), .ref g6, .ref g7, .ref g8, .ref g9, .ref g10, .long msa, .long msb, .ref g11, .ref g12, .ref g13, .ref g14, .ref g15, .int (nI mz), .ref g16, .ref g17, .ref g18, .int (nI mv), .ref g19, .int (nI my), .ref g20, .ref g21, .ref g22, .int wt, .int wr, .int fo])), (g2, .inl (cJ, 256, .inr (.inl fa))), (g6, .inl (cI, 24, .inl (fun jj => nI (qA jj)))), (g7, .inl (cI, 24, .inl (fun jj => nI (qB jj)))), (g20, .inl (cI, 24, .inl (fun jj => nI (pk jj)))), (g21, .inl (cI, 24, .inl t2)), (g22, .inl (cJ, 24, .inr (.inl b0)))] 108 [(0, .ref g0), (1, .int (nI n)), (2, .long lim), (4, .int (nI k)), (5, .long (lenO fa qA qB msa msb (pk k))), (7, .int (nI (tpo tn k))), (8, .int (nI r))] [] := by
                        intro fuel
                        induction fuel with
                        | zero => intro r h1 h2; exact absurd h2 (by omega)
                        | succ fuel hr8_ih =>
                          intro r hle hfu hfs hlo
                          refine g_iload C dX7_fits_108 110 rfl rfl ?_
                          refine g_iload C dX7_fits_110 112 rfl rfl ?_
                          refine g_icmp_gt_n C dX7_fits_112 136 115 (by decide) rfl (by omega) (by omega) (fun c112 => ?_) (fun c112 => ?_)
                          · refine g_iload C dX7_fits_136 138 rfl rfl ?_
                            refine g_iload C dX7_fits_138 140 rfl rfl ?_
                            refine g_icmp_gt_n C dX7_fits_140 149 143 (by decide) rfl (by omega) (by omega) (fun c140 => ?_) (fun c140 => ?_)
                            · refine g_iinc (v := nI k + (-1)) C dX7_fits_149 152 rfl rfl rfl (by decide) [1, 2, 3, 0, 4, 5, 6] (lv' := [(0, .ref g0), (1, .int (nI n)), (2, .long lim), (4, .int (nI k + (-1))), (5, .long (lenO fa qA qB msa msb (pk k))), (7, .int (nI (tpo tn k))), (8, .int (nI r))]) rfl ?_
                              refine g_goto C dX7_fits_152 34 (by decide) ?_
                              refine g_lv [0, 1, 2, 3] (lv' := [(0, .ref g0), (1, .int (nI n)), (2, .long lim), (4, .int (nI k + (-1)))]) rfl ?_
                              exact hF t2 (hfs.trans (by rw [show tpo tn k + 1 - r = 0 by omega]; rfl)) hag
                            · exact absurd c140 (by omega)
                          · refine g_aload_n C dX7_fits_115 116 rfl rfl ?_
                            refine g_get C iw_X7_fits_X7 0 rfl rfl 30 (by decide) (by decide +kernel) rfl rfl dX7_fits_116 119 rfl ?_
                            refine g_iload C dX7_fits_119 121 rfl rfl ?_
                            refine g_lald C 6 1 rfl rfl r rfl (by omega) (by decide) dX7_fits_121 122 rfl ?_
                            refine g_lload C dX7_fits_122 124 rfl rfl ?_
                            refine g_ladd C dX7_fits_124 125 rfl ?_
                            refine g_lload_n C dX7_fits_125 126 rfl rfl ?_
                            refine g_lc_le C dX7_fits_126 127 rfl dX7_fits_127 136 130 (by decide) rfl (fun c126 => ?_) (fun c126 => ?_)
                            · refine g_iload C dX7_fits_136 138 rfl rfl ?_
                              refine g_iload C dX7_fits_138 140 rfl rfl ?_
                              refine g_icmp_gt_n C dX7_fits_140 149 143 (by decide) rfl (by omega) (by omega) (fun c140 => ?_) (fun c140 => ?_)
                              · exact absurd c140 (by omega)
                              · refine g_iload C dX7_fits_143 145 rfl rfl ?_
                                refine g_iload_n C dX7_fits_145 146 rfl rfl ?_
                                refine g_icmp_lt_n C dX7_fits_146 155 149 (by decide) rfl (by omega) (by omega) (fun c146 => ?_) (fun c146 => ?_)
                                · refine g_aload_n C dX7_fits_155 156 rfl rfl ?_
                                  refine g_get C iw_X7_fits_X7 0 rfl rfl 29 (by decide) (by decide +kernel) rfl rfl dX7_fits_156 159 rfl ?_
                                  refine g_iload C dX7_fits_159 161 rfl rfl ?_
                                  refine g_iload C dX7_fits_161 163 rfl rfl ?_
                                  refine g_iast C 5 0 rfl rfl k rfl (by omega) (by decide) dX7_fits_163 164 rfl (ws' := [(g0, .inr (11, [.int (nI th), .int (nI mn), .ref g1, .ref g2, .int (nI mb), .ref g3, .ref g4, .ref g5, .int (nI mw), .ref g6, .ref g7, .ref g8, .ref g9, .ref g10, .long msa, .long msb, .ref g11, .ref g12, .ref g13, .ref g14, .ref g15, .int (nI mz), .ref g16, .ref g17, .ref g18, .int (nI mv), .ref g19, .int (nI my), .ref g20, .ref g21, .ref g22, .int wt, .int wr, .int fo])), (g2, .inl (cJ, 256, .inr (.inl fa))), (g6, .inl (cI, 24, .inl (fun jj => nI (qA jj)))), (g7, .inl (cI, 24, .inl (fun jj => nI (qB jj)))), (g20, .inl (cI, 24, .inl (fun jj => nI (pk jj)))), (g21, .inl (cI, 24, .inl (upd t2 k (nI r)))), (g22, .inl (cJ, 24, .inr (.inl b0)))]) rfl ?_
                                  refine g_aload_n C dX7_fits_164 165 rfl rfl ?_
                                  refine g_get C iw_X7_fits_X7 0 rfl rfl 30 (by decide) (by decide +kernel) rfl rfl dX7_fits_165 168 rfl ?_
                                  refine g_iload C dX7_fits_168 170 rfl rfl ?_
                                  refine g_dup2_11 C dX7_fits_170 171 rfl rfl rfl ?_
                                  refine g_lald C 6 1 rfl rfl r rfl (by omega) (by decide) dX7_fits_171 172 rfl ?_
                                  refine g_lload C dX7_fits_172 174 rfl rfl ?_
                                  refine g_ladd C dX7_fits_174 175 rfl ?_
                                  refine g_last C 6 1 rfl rfl r rfl (by omega) (by decide) dX7_fits_175 176 rfl (ws' := [(g0, .inr (11, [.int (nI th), .int (nI mn), .ref g1, .ref g2, .int (nI mb), .ref g3, .ref g4, .ref g5, .int (nI mw), .ref g6, .ref g7, .ref g8, .ref g9, .ref g10, .long msa, .long msb, .ref g11, .ref g12, .ref g13, .ref g14, .ref g15, .int (nI mz), .ref g16, .ref g17, .ref g18, .int (nI mv), .ref g19, .int (nI my), .ref g20, .ref g21, .ref g22, .int wt, .int wr, .int fo])), (g2, .inl (cJ, 256, .inr (.inl fa))), (g6, .inl (cI, 24, .inl (fun jj => nI (qA jj)))), (g7, .inl (cI, 24, .inl (fun jj => nI (qB jj)))), (g20, .inl (cI, 24, .inl (fun jj => nI (pk jj)))), (g21, .inl (cI, 24, .inl (upd t2 k (nI r)))), (g22, .inl (cJ, 24, .inr (.inl (vp_updL b0 r ((b0 r) + (lenO fa qA qB msa msb (pk k)))))))]) rfl ?_
                                  refine g_iinc (v := nI (k + 1)) C dX7_fits_176 179 rfl rfl (nI_add k 1) (by decide) [1, 2, 3, 0, 4, 5, 6] (lv' := [(0, .ref g0), (1, .int (nI n)), (2, .long lim), (4, .int (nI (k + 1))), (5, .long (lenO fa qA qB msa msb (pk k))), (7, .int (nI (tpo tn k))), (8, .int (nI r))]) rfl ?_
                                  refine g_iload C dX7_fits_179 181 rfl rfl ?_
                                  refine g_aload_n C dX7_fits_181 182 rfl rfl ?_
                                  refine g_get C iw_X7_fits_X7 0 rfl rfl 27 (by decide) (by decide +kernel) rfl rfl dX7_fits_182 185 rfl ?_
                                  refine g_icmp_ge_n C dX7_fits_185 196 188 (by decide) rfl (by omega) (by omega) (fun c185 => ?_) (fun c185 => ?_)
                                  · refine g_goto C dX7_fits_196 34 (by decide) ?_
                                    refine g_lv [0, 1, 2, 3] (lv' := [(0, .ref g0), (1, .int (nI n)), (2, .long lim), (4, .int (nI (k + 1)))]) rfl ?_
                                    refine ihd (k + 1) (updN tn k r) _ _ (by omega) (fun i hi => ?_) (fun i hi => ?_) (fun hk9 => ?_) (fun a t9 u9 h9 ht9 => hS a t9 u9 (hfs.trans (ffs_hit (by omega) ((if_pos ⟨c146, c126⟩).trans h9))) ht9) (fun t9 h9 hag9 => ?_)
                                    · rcases Nat.lt_or_ge i k with q9 | q9
                                      · rw [upd_ne _ _ (show ¬ i = k by omega), hag i q9, ht i q9, updN, if_neg (by omega)]
                                      · obtain rfl : i = k := by omega
                                        rw [upd_at, updN, if_pos rfl]
                                    · rcases Nat.lt_or_ge i k with q9 | q9
                                      · rw [updN, if_neg (by omega)]; exact hti i q9
                                      · obtain rfl : i = k := by omega
                                        rw [updN, if_pos rfl]; omega
                                    · exact absurd hk9 (by omega)
                                    · rw [nI_dn]
                                      refine ihr (r + 1) t9 (by omega) (by omega) (fun i hi => ?_) ?_ (hfs.trans (ffs_step (by omega) ((if_pos ⟨c146, c126⟩).trans h9)))
                                      · rw [hag9 i (by omega), upd_ne _ _ (show ¬ i = k by omega)]; exact hag i hi
                                      · rw [hag9 k (by omega), upd_at]; rfl
                                  · refine g_aload_n C dX7_fits_188 189 rfl rfl ?_
                                    refine g_get C iw_X7_fits_X7 0 rfl rfl 29 (by decide) (by decide +kernel) rfl rfl dX7_fits_189 192 rfl ?_
                                    refine g_iload C dX7_fits_192 194 rfl rfl ?_
                                    refine g_iconst (v := -1) C dX7_fits_194 195 rfl (by decide) ?_
                                    refine g_iast C 5 0 rfl rfl (k + 1) rfl (by omega) (by decide) dX7_fits_195 196 rfl (ws' := [(g0, .inr (11, [.int (nI th), .int (nI mn), .ref g1, .ref g2, .int (nI mb), .ref g3, .ref g4, .ref g5, .int (nI mw), .ref g6, .ref g7, .ref g8, .ref g9, .ref g10, .long msa, .long msb, .ref g11, .ref g12, .ref g13, .ref g14, .ref g15, .int (nI mz), .ref g16, .ref g17, .ref g18, .int (nI mv), .ref g19, .int (nI my), .ref g20, .ref g21, .ref g22, .int wt, .int wr, .int fo])), (g2, .inl (cJ, 256, .inr (.inl fa))), (g6, .inl (cI, 24, .inl (fun jj => nI (qA jj)))), (g7, .inl (cI, 24, .inl (fun jj => nI (qB jj)))), (g20, .inl (cI, 24, .inl (fun jj => nI (pk jj)))), (g21, .inl (cI, 24, .inl (upd (upd t2 k (nI r)) (k + 1) (-1)))), (g22, .inl (cJ, 24, .inr (.inl (vp_updL b0 r ((b0 r) + (lenO fa qA qB msa msb (pk k)))))))]) rfl ?_
                                    refine g_goto C dX7_fits_196 34 (by decide) ?_
                                    refine g_lv [0, 1, 2, 3] (lv' := [(0, .ref g0), (1, .int (nI n)), (2, .long lim), (4, .int (nI (k + 1)))]) rfl ?_
                                    refine ihd (k + 1) (updN tn k r) _ _ (by omega) (fun i hi => ?_) (fun i hi => ?_) (fun hk9 => ?_) (fun a t9 u9 h9 ht9 => hS a t9 u9 (hfs.trans (ffs_hit (by omega) ((if_pos ⟨c146, c126⟩).trans h9))) ht9) (fun t9 h9 hag9 => ?_)
                                    · rcases Nat.lt_or_ge i k with q9 | q9
                                      · rw [upd_ne _ _ (show ¬ i = k + 1 by omega), upd_ne _ _ (show ¬ i = k by omega), hag i q9, ht i q9, updN, if_neg (by omega)]
                                      · obtain rfl : i = k := by omega
                                        rw [upd_ne _ _ (show ¬ i = i + 1 by omega), upd_at, updN, if_pos rfl]
                                    · rcases Nat.lt_or_ge i k with q9 | q9
                                      · rw [updN, if_neg (by omega)]; exact hti i q9
                                      · obtain rfl : i = k := by omega
                                        rw [updN, if_pos rfl]; omega
                                    · exact upd_at _ _ _
                                    · rw [nI_dn]
                                      refine ihr (r + 1) t9 (by omega) (by omega) (fun i hi => ?_) ?_ (hfs.trans (ffs_step (by omega) ((if_pos ⟨c146, c126⟩).trans h9)))
                                      · rw [hag9 i (by omega), upd_ne _ _ (show ¬ i = k + 1 by omega), upd_ne _ _ (show ¬ i = k by omega)]; exact hag i hi
                                      · rw [hag9 k (by omega), upd_ne _ _ (show ¬ k = k + 1 by omega), upd_at]; rfl
                                · refine g_iinc (v := nI k + (-1)) C dX7_fits_149 152 rfl rfl rfl (by decide) [1, 2, 3, 0, 4, 5, 6] (lv' := [(0, .ref g0), (1, .int (nI n)), (2, .long lim), (4, .int (nI k + (-1))), (5, .long (lenO fa qA qB msa msb (pk k))), (7, .int (nI (tpo tn k))), (8, .int (nI r))]) rfl ?_
                                  refine g_goto C dX7_fits_152 34 (by decide) ?_
                                  refine g_lv [0, 1, 2, 3] (lv' := [(0, .ref g0), (1, .int (nI n)), (2, .long lim), (4, .int (nI k + (-1)))]) rfl ?_
                                  exact hF t2 (hfs.trans (ffs_none (fun j hj => if_neg (fun q => absurd q.1 (by omega))))) hag
                            · refine g_iinc (v := nI (r + 1)) C dX7_fits_130 133 rfl rfl (nI_add r 1) (by decide) [1, 2, 3, 4, 5, 6, 0] (lv' := [(0, .ref g0), (1, .int (nI n)), (2, .long lim), (4, .int (nI k)), (5, .long (lenO fa qA qB msa msb (pk k))), (7, .int (nI (tpo tn k))), (8, .int (nI (r + 1)))]) rfl ?_
                              refine g_goto C dX7_fits_133 108 (by decide) ?_
                              exact hr8_ih (r + 1) (by omega) (by omega) (hfs.trans (ffs_step (by omega) (if_neg (fun q => c126 q.2)))) (by omega)
                      exact hr8 ((tpo tn k + 1) + 1) 0 (by omega) (by omega) heq (Nat.le_refl _)
                    · exact absurd rfl c69
                | succ q =>
                  rw [show bB b0 ((lenO fa qA qB msa msb) (pk k)) (q + 1) = vp_updL b0 q (b0 q + (lenO fa qA qB msa msb) (pk k)) from rfl]
                  have htk1 : t2 k = nI q := htk
                  refine g_iload C dX7_fits_34 36 rfl rfl ?_
                  refine g_if_lt_n C dX7_fits_36 199 39 (by decide) rfl (by omega) ?_
                  refine g_iload C dX7_fits_39 41 rfl rfl ?_
                  refine g_aload_n C dX7_fits_41 42 rfl rfl ?_
                  refine g_get C iw_X7_fits_X7 0 rfl rfl 27 (by decide) (by decide +kernel) rfl rfl dX7_fits_42 45 rfl ?_
                  refine g_icmp_ge_n C dX7_fits_45 199 48 (by decide) rfl (by omega) (by omega) (fun c45 => ?_) (fun c45 => ?_)
                  · exact absurd c45 (by omega)
                  · refine g_aload_n C dX7_fits_48 49 rfl rfl ?_
                    refine g_aload_n C dX7_fits_49 50 rfl rfl ?_
                    refine g_get C iw_X7_fits_X7 0 rfl rfl 28 (by decide) (by decide +kernel) rfl rfl dX7_fits_50 53 rfl ?_
                    refine g_iload C dX7_fits_53 55 rfl rfl ?_
                    refine g_iald C 4 0 rfl rfl k rfl (by omega) (by decide) dX7_fits_55 56 rfl ?_
                    refine g_callVl (ci := 11) (q0 := 0) (As := [.int (nI (pk k))]) (rest := []) (wr := [(g20, .inl (cI, 24, .inl (fun jj => nI (pk jj)))), (g21, .inl (cI, 24, .inl t2)), (g22, .inl (cJ, 24, .inr (.inl (vp_updL b0 q (b0 q + (lenO fa qA qB msa msb) (pk k))))))]) (ws' := fun (_ : Unit) => [(g0, .inr (11, [.int (nI th), .int (nI mn), .ref g1, .ref g2, .int (nI mb), .ref g3, .ref g4, .ref g5, .int (nI mw), .ref g6, .ref g7, .ref g8, .ref g9, .ref g10, .long msa, .long msb, .ref g11, .ref g12, .ref g13, .ref g14, .ref g15, .int (nI mz), .ref g16, .ref g17, .ref g18, .int (nI mv), .ref g19, .int (nI my), .ref g20, .ref g21, .ref g22, .int wt, .int wr, .int fo])), (g2, .inl (cJ, 256, .inr (.inl fa))), (g6, .inl (cI, 24, .inl (fun jj => nI (qA jj)))), (g7, .inl (cI, 24, .inl (fun jj => nI (qB jj)))), (g20, .inl (cI, 24, .inl (fun jj => nI (pk jj)))), (g21, .inl (cI, 24, .inl t2)), (g22, .inl (cJ, 24, .inr (.inl (vp_updL b0 q (b0 q + (lenO fa qA qB msa msb) (pk k))))))]) C (fun sz => c_X7_lengthOf _ _ cI cJ cB cZ sz g0 g1 g2 g3 g4 g5 g6 g7 g8 g9 g10 g11 g12 g13 g14 g15 g16 g17 g18 g19 g20 g21 g22 th mn mb mw mz mv my msa msb wt wr fo fa qA qB (pk k) (by omega) (hA (pk k) (by omega)) (hB (pk k) (by omega)) hsb) gx_XP0 1 gX7_fits_X7_lengthOf rfl rfl rfl (by decide +kernel) ⟨Nat.le_of_ble_eq_true rfl, Nat.le_of_ble_eq_true rfl⟩ rfl rfl [0, 1, 2, 3] [4, 5, 6] [3, 4, 5, 6, 0, 1, 2] rfl (by decide) rfl (by decide) (by decide) (fun _ => rfl) (by decide) rfl rfl (Nat.le_of_ble_eq_true rfl) dX7_fits_56 ⟨Nat.le_of_ble_eq_true rfl, Nat.le_of_ble_eq_true rfl⟩ 59 rfl (eqk ?_)
                    refine g_lstore C dX7_fits_59 61 rfl (by decide) [1, 2, 3, 4, 0] (lv' := [(0, .ref g0), (1, .int (nI n)), (2, .long lim), (4, .int (nI k)), (5, .long (lenO fa qA qB msa msb (pk k)))]) rfl ?_
                    refine g_aload_n C dX7_fits_61 62 rfl rfl ?_
                    refine g_get C iw_X7_fits_X7 0 rfl rfl 29 (by decide) (by decide +kernel) rfl rfl dX7_fits_62 65 rfl ?_
                    refine g_iload C dX7_fits_65 67 rfl rfl ?_
                    refine g_iald C 5 0 rfl rfl k rfl (by omega) (by decide) dX7_fits_67 68 rfl ?_
                    refine g_topi (nI q) htk1 ?_
                    refine g_iconst (v := -1) C dX7_fits_68 69 rfl (by decide) ?_
                    refine g_icmp_eq C dX7_fits_69 89 72 (by decide) rfl (fun c69 => ?_) (fun c69 => ?_)
                    · exact absurd c69 (nI_m1 (by omega))
                    · refine g_aload_n C dX7_fits_72 73 rfl rfl ?_
                      refine g_get C iw_X7_fits_X7 0 rfl rfl 30 (by decide) (by decide +kernel) rfl rfl dX7_fits_73 76 rfl ?_
                      refine g_aload_n C dX7_fits_76 77 rfl rfl ?_
                      refine g_get C iw_X7_fits_X7 0 rfl rfl 29 (by decide) (by decide +kernel) rfl rfl dX7_fits_77 80 rfl ?_
                      refine g_iload C dX7_fits_80 82 rfl rfl ?_
                      refine g_iald C 5 0 rfl rfl k rfl (by omega) (by decide) dX7_fits_82 83 rfl ?_
                      refine g_topi (nI q) htk1 ?_
                      refine g_dup2_11 C dX7_fits_83 84 rfl rfl rfl ?_
                      refine g_lald C 6 1 rfl rfl q rfl (by omega) (by decide) dX7_fits_84 85 rfl ?_
                      refine g_lload C dX7_fits_85 87 rfl rfl ?_
                      refine g_lsub C dX7_fits_87 88 rfl ?_
                      refine g_last C 6 1 rfl rfl q rfl (by omega) (by decide) dX7_fits_88 89 rfl (ws' := [(g0, .inr (11, [.int (nI th), .int (nI mn), .ref g1, .ref g2, .int (nI mb), .ref g3, .ref g4, .ref g5, .int (nI mw), .ref g6, .ref g7, .ref g8, .ref g9, .ref g10, .long msa, .long msb, .ref g11, .ref g12, .ref g13, .ref g14, .ref g15, .int (nI mz), .ref g16, .ref g17, .ref g18, .int (nI mv), .ref g19, .int (nI my), .ref g20, .ref g21, .ref g22, .int wt, .int wr, .int fo])), (g2, .inl (cJ, 256, .inr (.inl fa))), (g6, .inl (cI, 24, .inl (fun jj => nI (qA jj)))), (g7, .inl (cI, 24, .inl (fun jj => nI (qB jj)))), (g20, .inl (cI, 24, .inl (fun jj => nI (pk jj)))), (g21, .inl (cI, 24, .inl t2)), (g22, .inl (cJ, 24, .inr (.inl (vp_updL (vp_updL b0 q (b0 q + (lenO fa qA qB msa msb) (pk k))) q (((vp_updL b0 q (b0 q + (lenO fa qA qB msa msb) (pk k))) q) - (lenO fa qA qB msa msb (pk k)))))))]) rfl ?_
                      rw [updL_back]
                      refine g_aload_n C dX7_fits_89 90 rfl rfl ?_
                      refine g_iload C dX7_fits_90 92 rfl rfl ?_
                      refine g_callVi (ci := 11) (q0 := 0) (As := [.int (nI k)]) (rest := []) (wr := [(g2, .inl (cJ, 256, .inr (.inl fa))), (g6, .inl (cI, 24, .inl (fun jj => nI (qA jj)))), (g7, .inl (cI, 24, .inl (fun jj => nI (qB jj)))), (g20, .inl (cI, 24, .inl (fun jj => nI (pk jj)))), (g22, .inl (cJ, 24, .inr (.inl b0)))]) (ws' := fun (_ : Unit) => [(g0, .inr (11, [.int (nI th), .int (nI mn), .ref g1, .ref g2, .int (nI mb), .ref g3, .ref g4, .ref g5, .int (nI mw), .ref g6, .ref g7, .ref g8, .ref g9, .ref g10, .long msa, .long msb, .ref g11, .ref g12, .ref g13, .ref g14, .ref g15, .int (nI mz), .ref g16, .ref g17, .ref g18, .int (nI mv), .ref g19, .int (nI my), .ref g20, .ref g21, .ref g22, .int wt, .int wr, .int fo])), (g2, .inl (cJ, 256, .inr (.inl fa))), (g6, .inl (cI, 24, .inl (fun jj => nI (qA jj)))), (g7, .inl (cI, 24, .inl (fun jj => nI (qB jj)))), (g20, .inl (cI, 24, .inl (fun jj => nI (pk jj)))), (g21, .inl (cI, 24, .inl t2)), (g22, .inl (cJ, 24, .inr (.inl b0)))]) C (fun sz => c_X7_topOf _ _ cI cJ cB cZ sz g0 g1 g2 g3 g4 g5 g6 g7 g8 g9 g10 g11 g12 g13 g14 g15 g16 g17 g18 g19 g20 g21 g22 th mn mb mw mz mv my msa msb wt wr fo t2 tn k (by omega) (fun i hi => (hag i hi).trans (ht i hi)) (fun i hi => by have := hti i hi; omega)) gx_XP0 1 gX7_fits_X7_topOf rfl rfl rfl (by decide +kernel) ⟨Nat.le_of_ble_eq_true rfl, Nat.le_of_ble_eq_true rfl⟩ rfl rfl [0, 5] [1, 2, 3, 4, 6] [5, 0, 1, 2, 3, 6, 4] rfl (by decide) rfl (by decide) (by decide) (fun _ => rfl) (by decide) rfl rfl (Nat.le_of_ble_eq_true rfl) dX7_fits_92 ⟨Nat.le_of_ble_eq_true rfl, Nat.le_of_ble_eq_true rfl⟩ 95 rfl (eqk ?_)
                      refine g_istore C dX7_fits_95 97 rfl (by decide) [1, 2, 3, 4, 5, 0] (lv' := [(0, .ref g0), (1, .int (nI n)), (2, .long lim), (4, .int (nI k)), (5, .long (lenO fa qA qB msa msb (pk k))), (7, .int (nI (tpo tn k)))]) rfl ?_
                      refine g_aload_n C dX7_fits_97 98 rfl rfl ?_
                      refine g_get C iw_X7_fits_X7 0 rfl rfl 29 (by decide) (by decide +kernel) rfl rfl dX7_fits_98 101 rfl ?_
                      refine g_iload C dX7_fits_101 103 rfl rfl ?_
                      refine g_iald C 5 0 rfl rfl k rfl (by omega) (by decide) dX7_fits_103 104 rfl ?_
                      refine g_topi (nI q) htk1 ?_
                      refine g_iconst (v := nI 1) C dX7_fits_104 105 rfl (by decide) ?_
                      refine g_iaddn C dX7_fits_105 106 rfl ?_
                      refine g_istore C dX7_fits_106 108 rfl (by decide) [1, 2, 3, 4, 5, 6, 0] (lv' := [(0, .ref g0), (1, .int (nI n)), (2, .long lim), (4, .int (nI k)), (5, .long (lenO fa qA qB msa msb (pk k))), (7, .int (nI (tpo tn k))), (8, .int (nI (q + 1)))]) rfl ?_
                      have hr8 : ∀ (fuel r : Nat), r ≤ (tpo tn k + 1) → (tpo tn k + 1) + 1 ≤ r + fuel → (ff n lim (fun kk => (lenO fa qA qB msa msb) (pk kk)) (d + 1) k b0 tn = ffs (ffg n lim (fun kk => (lenO fa qA qB msa msb) (pk kk)) d k b0 tn) (tpo tn k + 1 - r) r) → (q + 1 ≤ r) → gx X 0 0 [(g0, .inr (11, [.int (nI th), .int (nI mn), .ref g1, .ref g2, .int (nI mb), .ref g3, .ref g4, .ref g5, .int (nI mw), .ref g6, .ref g7, .ref g8, .ref g9, .ref g10, .long msa, .long msb, .ref g11, .ref g12, .ref g13, .ref g14, .ref g15, .int (nI mz), .ref g16, .ref g17, .ref g18, .int (nI mv), .ref g19, .int (nI my), .ref g20, .ref g21, .ref g22, .int wt, .int wr, .int fo])), (g2, .inl (cJ, 256, .inr (.inl fa))), (g6, .inl (cI, 24, .inl (fun jj => nI (qA jj)))), (g7, .inl (cI, 24, .inl (fun jj => nI (qB jj)))), (g20, .inl (cI, 24, .inl (fun jj => nI (pk jj)))), (g21, .inl (cI, 24, .inl t2)), (g22, .inl (cJ, 24, .inr (.inl b0)))] 108 [(0, .ref g0), (1, .int (nI n)), (2, .long lim), (4, .int (nI k)), (5, .long (lenO fa qA qB msa msb (pk k))), (7, .int (nI (tpo tn k))), (8, .int (nI r))] [] := by
                        intro fuel
                        induction fuel with
                        | zero => intro r h1 h2; exact absurd h2 (by omega)
                        | succ fuel hr8_ih =>
                          intro r hle hfu hfs hlo
                          refine g_iload C dX7_fits_108 110 rfl rfl ?_
                          refine g_iload C dX7_fits_110 112 rfl rfl ?_
                          refine g_icmp_gt_n C dX7_fits_112 136 115 (by decide) rfl (by omega) (by omega) (fun c112 => ?_) (fun c112 => ?_)
                          · refine g_iload C dX7_fits_136 138 rfl rfl ?_
                            refine g_iload C dX7_fits_138 140 rfl rfl ?_
                            refine g_icmp_gt_n C dX7_fits_140 149 143 (by decide) rfl (by omega) (by omega) (fun c140 => ?_) (fun c140 => ?_)
                            · refine g_iinc (v := nI k + (-1)) C dX7_fits_149 152 rfl rfl rfl (by decide) [1, 2, 3, 0, 4, 5, 6] (lv' := [(0, .ref g0), (1, .int (nI n)), (2, .long lim), (4, .int (nI k + (-1))), (5, .long (lenO fa qA qB msa msb (pk k))), (7, .int (nI (tpo tn k))), (8, .int (nI r))]) rfl ?_
                              refine g_goto C dX7_fits_152 34 (by decide) ?_
                              refine g_lv [0, 1, 2, 3] (lv' := [(0, .ref g0), (1, .int (nI n)), (2, .long lim), (4, .int (nI k + (-1)))]) rfl ?_
                              exact hF t2 (hfs.trans (by rw [show tpo tn k + 1 - r = 0 by omega]; rfl)) hag
                            · exact absurd c140 (by omega)
                          · refine g_aload_n C dX7_fits_115 116 rfl rfl ?_
                            refine g_get C iw_X7_fits_X7 0 rfl rfl 30 (by decide) (by decide +kernel) rfl rfl dX7_fits_116 119 rfl ?_
                            refine g_iload C dX7_fits_119 121 rfl rfl ?_
                            refine g_lald C 6 1 rfl rfl r rfl (by omega) (by decide) dX7_fits_121 122 rfl ?_
                            refine g_lload C dX7_fits_122 124 rfl rfl ?_
                            refine g_ladd C dX7_fits_124 125 rfl ?_
                            refine g_lload_n C dX7_fits_125 126 rfl rfl ?_
                            refine g_lc_le C dX7_fits_126 127 rfl dX7_fits_127 136 130 (by decide) rfl (fun c126 => ?_) (fun c126 => ?_)
                            · refine g_iload C dX7_fits_136 138 rfl rfl ?_
                              refine g_iload C dX7_fits_138 140 rfl rfl ?_
                              refine g_icmp_gt_n C dX7_fits_140 149 143 (by decide) rfl (by omega) (by omega) (fun c140 => ?_) (fun c140 => ?_)
                              · exact absurd c140 (by omega)
                              · refine g_iload C dX7_fits_143 145 rfl rfl ?_
                                refine g_iload_n C dX7_fits_145 146 rfl rfl ?_
                                refine g_icmp_lt_n C dX7_fits_146 155 149 (by decide) rfl (by omega) (by omega) (fun c146 => ?_) (fun c146 => ?_)
                                · refine g_aload_n C dX7_fits_155 156 rfl rfl ?_
                                  refine g_get C iw_X7_fits_X7 0 rfl rfl 29 (by decide) (by decide +kernel) rfl rfl dX7_fits_156 159 rfl ?_
                                  refine g_iload C dX7_fits_159 161 rfl rfl ?_
                                  refine g_iload C dX7_fits_161 163 rfl rfl ?_
                                  refine g_iast C 5 0 rfl rfl k rfl (by omega) (by decide) dX7_fits_163 164 rfl (ws' := [(g0, .inr (11, [.int (nI th), .int (nI mn), .ref g1, .ref g2, .int (nI mb), .ref g3, .ref g4, .ref g5, .int (nI mw), .ref g6, .ref g7, .ref g8, .ref g9, .ref g10, .long msa, .long msb, .ref g11, .ref g12, .ref g13, .ref g14, .ref g15, .int (nI mz), .ref g16, .ref g17, .ref g18, .int (nI mv), .ref g19, .int (nI my), .ref g20, .ref g21, .ref g22, .int wt, .int wr, .int fo])), (g2, .inl (cJ, 256, .inr (.inl fa))), (g6, .inl (cI, 24, .inl (fun jj => nI (qA jj)))), (g7, .inl (cI, 24, .inl (fun jj => nI (qB jj)))), (g20, .inl (cI, 24, .inl (fun jj => nI (pk jj)))), (g21, .inl (cI, 24, .inl (upd t2 k (nI r)))), (g22, .inl (cJ, 24, .inr (.inl b0)))]) rfl ?_
                                  refine g_aload_n C dX7_fits_164 165 rfl rfl ?_
                                  refine g_get C iw_X7_fits_X7 0 rfl rfl 30 (by decide) (by decide +kernel) rfl rfl dX7_fits_165 168 rfl ?_
                                  refine g_iload C dX7_fits_168 170 rfl rfl ?_
                                  refine g_dup2_11 C dX7_fits_170 171 rfl rfl rfl ?_
                                  refine g_lald C 6 1 rfl rfl r rfl (by omega) (by decide) dX7_fits_171 172 rfl ?_
                                  refine g_lload C dX7_fits_172 174 rfl rfl ?_
                                  refine g_ladd C dX7_fits_174 175 rfl ?_
                                  refine g_last C 6 1 rfl rfl r rfl (by omega) (by decide) dX7_fits_175 176 rfl (ws' := [(g0, .inr (11, [.int (nI th), .int (nI mn), .ref g1, .ref g2, .int (nI mb), .ref g3, .ref g4, .ref g5, .int (nI mw), .ref g6, .ref g7, .ref g8, .ref g9, .ref g10, .long msa, .long msb, .ref g11, .ref g12, .ref g13, .ref g14, .ref g15, .int (nI mz), .ref g16, .ref g17, .ref g18, .int (nI mv), .ref g19, .int (nI my), .ref g20, .ref g21, .ref g22, .int wt, .int wr, .int fo])), (g2, .inl (cJ, 256, .inr (.inl fa))), (g6, .inl (cI, 24, .inl (fun jj => nI (qA jj)))), (g7, .inl (cI, 24, .inl (fun jj => nI (qB jj)))), (g20, .inl (cI, 24, .inl (fun jj => nI (pk jj)))), (g21, .inl (cI, 24, .inl (upd t2 k (nI r)))), (g22, .inl (cJ, 24, .inr (.inl (vp_updL b0 r ((b0 r) + (lenO fa qA qB msa msb (pk k)))))))]) rfl ?_
                                  refine g_iinc (v := nI (k + 1)) C dX7_fits_176 179 rfl rfl (nI_add k 1) (by decide) [1, 2, 3, 0, 4, 5, 6] (lv' := [(0, .ref g0), (1, .int (nI n)), (2, .long lim), (4, .int (nI (k + 1))), (5, .long (lenO fa qA qB msa msb (pk k))), (7, .int (nI (tpo tn k))), (8, .int (nI r))]) rfl ?_
                                  refine g_iload C dX7_fits_179 181 rfl rfl ?_
                                  refine g_aload_n C dX7_fits_181 182 rfl rfl ?_
                                  refine g_get C iw_X7_fits_X7 0 rfl rfl 27 (by decide) (by decide +kernel) rfl rfl dX7_fits_182 185 rfl ?_
                                  refine g_icmp_ge_n C dX7_fits_185 196 188 (by decide) rfl (by omega) (by omega) (fun c185 => ?_) (fun c185 => ?_)
                                  · refine g_goto C dX7_fits_196 34 (by decide) ?_
                                    refine g_lv [0, 1, 2, 3] (lv' := [(0, .ref g0), (1, .int (nI n)), (2, .long lim), (4, .int (nI (k + 1)))]) rfl ?_
                                    refine ihd (k + 1) (updN tn k r) _ _ (by omega) (fun i hi => ?_) (fun i hi => ?_) (fun hk9 => ?_) (fun a t9 u9 h9 ht9 => hS a t9 u9 (hfs.trans (ffs_hit (by omega) ((if_pos ⟨c146, c126⟩).trans h9))) ht9) (fun t9 h9 hag9 => ?_)
                                    · rcases Nat.lt_or_ge i k with q9 | q9
                                      · rw [upd_ne _ _ (show ¬ i = k by omega), hag i q9, ht i q9, updN, if_neg (by omega)]
                                      · obtain rfl : i = k := by omega
                                        rw [upd_at, updN, if_pos rfl]
                                    · rcases Nat.lt_or_ge i k with q9 | q9
                                      · rw [updN, if_neg (by omega)]; exact hti i q9
                                      · obtain rfl : i = k := by omega
                                        rw [updN, if_pos rfl]; omega
                                    · exact absurd hk9 (by omega)
                                    · rw [nI_dn]
                                      refine ihr (r + 1) t9 (by omega) (by omega) (fun i hi => ?_) ?_ (hfs.trans (ffs_step (by omega) ((if_pos ⟨c146, c126⟩).trans h9)))
                                      · rw [hag9 i (by omega), upd_ne _ _ (show ¬ i = k by omega)]; exact hag i hi
                                      · rw [hag9 k (by omega), upd_at]; rfl
                                  · refine g_aload_n C dX7_fits_188 189 rfl rfl ?_
                                    refine g_get C iw_X7_fits_X7 0 rfl rfl 29 (by decide) (by decide +kernel) rfl rfl dX7_fits_189 192 rfl ?_
                                    refine g_iload C dX7_fits_192 194 rfl rfl ?_
                                    refine g_iconst (v := -1) C dX7_fits_194 195 rfl (by decide) ?_
                                    refine g_iast C 5 0 rfl rfl (k + 1) rfl (by omega) (by decide) dX7_fits_195 196 rfl (ws' := [(g0, .inr (11, [.int (nI th), .int (nI mn), .ref g1, .ref g2, .int (nI mb), .ref g3, .ref g4, .ref g5, .int (nI mw), .ref g6, .ref g7, .ref g8, .ref g9, .ref g10, .long msa, .long msb, .ref g11, .ref g12, .ref g13, .ref g14, .ref g15, .int (nI mz), .ref g16, .ref g17, .ref g18, .int (nI mv), .ref g19, .int (nI my), .ref g20, .ref g21, .ref g22, .int wt, .int wr, .int fo])), (g2, .inl (cJ, 256, .inr (.inl fa))), (g6, .inl (cI, 24, .inl (fun jj => nI (qA jj)))), (g7, .inl (cI, 24, .inl (fun jj => nI (qB jj)))), (g20, .inl (cI, 24, .inl (fun jj => nI (pk jj)))), (g21, .inl (cI, 24, .inl (upd (upd t2 k (nI r)) (k + 1) (-1)))), (g22, .inl (cJ, 24, .inr (.inl (vp_updL b0 r ((b0 r) + (lenO fa qA qB msa msb (pk k)))))))]) rfl ?_
                                    refine g_goto C dX7_fits_196 34 (by decide) ?_
                                    refine g_lv [0, 1, 2, 3] (lv' := [(0, .ref g0), (1, .int (nI n)), (2, .long lim), (4, .int (nI (k + 1)))]) rfl ?_
                                    refine ihd (k + 1) (updN tn k r) _ _ (by omega) (fun i hi => ?_) (fun i hi => ?_) (fun hk9 => ?_) (fun a t9 u9 h9 ht9 => hS a t9 u9 (hfs.trans (ffs_hit (by omega) ((if_pos ⟨c146, c126⟩).trans h9))) ht9) (fun t9 h9 hag9 => ?_)
                                    · rcases Nat.lt_or_ge i k with q9 | q9
                                      · rw [upd_ne _ _ (show ¬ i = k + 1 by omega), upd_ne _ _ (show ¬ i = k by omega), hag i q9, ht i q9, updN, if_neg (by omega)]
                                      · obtain rfl : i = k := by omega
                                        rw [upd_ne _ _ (show ¬ i = i + 1 by omega), upd_at, updN, if_pos rfl]
                                    · rcases Nat.lt_or_ge i k with q9 | q9
                                      · rw [updN, if_neg (by omega)]; exact hti i q9
                                      · obtain rfl : i = k := by omega
                                        rw [updN, if_pos rfl]; omega
                                    · exact upd_at _ _ _
                                    · rw [nI_dn]
                                      refine ihr (r + 1) t9 (by omega) (by omega) (fun i hi => ?_) ?_ (hfs.trans (ffs_step (by omega) ((if_pos ⟨c146, c126⟩).trans h9)))
                                      · rw [hag9 i (by omega), upd_ne _ _ (show ¬ i = k + 1 by omega), upd_ne _ _ (show ¬ i = k by omega)]; exact hag i hi
                                      · rw [hag9 k (by omega), upd_ne _ _ (show ¬ k = k + 1 by omega), upd_at]; rfl
                                · refine g_iinc (v := nI k + (-1)) C dX7_fits_149 152 rfl rfl rfl (by decide) [1, 2, 3, 0, 4, 5, 6] (lv' := [(0, .ref g0), (1, .int (nI n)), (2, .long lim), (4, .int (nI k + (-1))), (5, .long (lenO fa qA qB msa msb (pk k))), (7, .int (nI (tpo tn k))), (8, .int (nI r))]) rfl ?_
                                  refine g_goto C dX7_fits_152 34 (by decide) ?_
                                  refine g_lv [0, 1, 2, 3] (lv' := [(0, .ref g0), (1, .int (nI n)), (2, .long lim), (4, .int (nI k + (-1)))]) rfl ?_
                                  exact hF t2 (hfs.trans (ffs_none (fun j hj => if_neg (fun q => absurd q.1 (by omega))))) hag
                            · refine g_iinc (v := nI (r + 1)) C dX7_fits_130 133 rfl rfl (nI_add r 1) (by decide) [1, 2, 3, 4, 5, 6, 0] (lv' := [(0, .ref g0), (1, .int (nI n)), (2, .long lim), (4, .int (nI k)), (5, .long (lenO fa qA qB msa msb (pk k))), (7, .int (nI (tpo tn k))), (8, .int (nI (r + 1)))]) rfl ?_
                              refine g_goto C dX7_fits_133 108 (by decide) ?_
                              exact hr8_ih (r + 1) (by omega) (by omega) (hfs.trans (ffs_step (by omega) (if_neg (fun q => c126 q.2)))) (by omega)
                      exact hr8 ((tpo tn k + 1) + 1) (q + 1) (by omega) (by omega) heq (Nat.le_refl _)
            exact hin (tpo tn k + 3) 0 t (by omega) (by omega) (fun _ _ => rfl) (h1 (by omega)) (ff_succ _ _ _ _ _ _ _)
        refine hs my 0 (fun _ => 0) _ _ (by omega) (fun i hi => absurd hi (by omega)) (fun i hi => absurd hi (by omega)) (fun _ => upd_at _ _ _) (fun a t9 u9 h9 ht9 => ?_) (fun t9 h9 _ => ?_)
        · refine g_iload C dX7_fits_34 36 rfl rfl ?_
          refine g_if_lt_n C dX7_fits_36 199 39 (by decide) rfl (by omega) ?_
          refine g_iload C dX7_fits_39 41 rfl rfl ?_
          refine g_aload_n C dX7_fits_41 42 rfl rfl ?_
          refine g_get C iw_X7_fits_X7 0 rfl rfl 27 (by decide) (by decide +kernel) rfl rfl dX7_fits_42 45 rfl ?_
          refine g_icmp_ge_n C dX7_fits_45 199 48 (by decide) rfl (by omega) (by omega) (fun c45 => ?_) (fun c45 => ?_)
          · refine g_iload C dX7_fits_199 201 rfl rfl ?_
            refine g_aload_n C dX7_fits_201 202 rfl rfl ?_
            refine g_get C iw_X7_fits_X7 0 rfl rfl 27 (by decide) (by decide +kernel) rfl rfl dX7_fits_202 205 rfl ?_
            refine g_icmp_ne_n C dX7_fits_205 212 208 (by decide) rfl (by omega) (by omega) (fun c205 => ?_) (fun c205 => ?_)
            · exact absurd rfl c205
            · refine g_iconst (v := nI 1) C dX7_fits_208 209 rfl (by decide) ?_
              refine g_goto C dX7_fits_209 213 (by decide) ?_
              exact g_zret C hQ (Nat.le_of_ble_eq_true rfl) (Nat.le_of_ble_eq_true rfl) dX7_fits_213 rfl (t9, u9) (Or.inl ⟨rfl, a, h9, ht9⟩) (by first | (dsimp only; done) | rfl)
          · exact absurd c45 (by omega)
        · refine g_iload C dX7_fits_34 36 rfl rfl ?_
          refine g_if_lt C dX7_fits_36 199 39 (by decide) rfl (fun c36 => ?_) (fun c36 => ?_)
          · refine g_iload C dX7_fits_199 201 rfl rfl ?_
            refine g_aload_n C dX7_fits_201 202 rfl rfl ?_
            refine g_get C iw_X7_fits_X7 0 rfl rfl 27 (by decide) (by decide +kernel) rfl rfl dX7_fits_202 205 rfl ?_
            refine g_icmp_ne C dX7_fits_205 212 208 (by decide) rfl (fun c205 => ?_) (fun c205 => ?_)
            · refine g_iconst (v := nI 0) C dX7_fits_212 213 rfl (by decide) ?_
              exact g_zret C hQ (Nat.le_of_ble_eq_true rfl) (Nat.le_of_ble_eq_true rfl) dX7_fits_213 rfl (t9, fllL us 0 24) (Or.inr ⟨rfl, h9⟩) (by first | (dsimp only; done) | rfl)
            · exact absurd (c205.symm.trans (by decide)) (nI_m1 (by omega))
          · exact absurd (by decide) c36
      · refine g_aload_n C dX7_fits_10 11 rfl rfl ?_
        refine g_get C iw_X7_fits_X7 0 rfl rfl 30 (by decide) (by decide +kernel) rfl rfl dX7_fits_11 14 rfl ?_
        refine g_iload C dX7_fits_14 16 rfl rfl ?_
        refine g_lconst (v := 0) C dX7_fits_16 17 rfl (by decide) ?_
        refine g_last C 6 1 rfl rfl z rfl (by omega) (by decide) dX7_fits_17 18 rfl (ws' := [(g0, .inr (11, [.int (nI th), .int (nI mn), .ref g1, .ref g2, .int (nI mb), .ref g3, .ref g4, .ref g5, .int (nI mw), .ref g6, .ref g7, .ref g8, .ref g9, .ref g10, .long msa, .long msb, .ref g11, .ref g12, .ref g13, .ref g14, .ref g15, .int (nI mz), .ref g16, .ref g17, .ref g18, .int (nI mv), .ref g19, .int (nI my), .ref g20, .ref g21, .ref g22, .int wt, .int wr, .int fo])), (g2, .inl (cJ, 256, .inr (.inl fa))), (g6, .inl (cI, 24, .inl (fun jj => nI (qA jj)))), (g7, .inl (cI, 24, .inl (fun jj => nI (qB jj)))), (g20, .inl (cI, 24, .inl (fun jj => nI (pk jj)))), (g21, .inl (cI, 24, .inl ti)), (g22, .inl (cJ, 24, .inr (.inl (vp_updL (fllL us 0 z) z 0))))]) rfl ?_
        refine g_iinc (v := nI (z + 1)) C dX7_fits_18 21 rfl rfl (nI_add z 1) (by decide) [1, 2, 3, 0] (lv' := [(0, .ref g0), (1, .int (nI n)), (2, .long lim), (4, .int (nI (z + 1)))]) rfl ?_
        refine g_goto C dX7_fits_21 3 (by decide) ?_
        rw [show vp_updL (fllL us 0 z) z 0 = fllL us 0 (z + 1) from rfl]
        exact hz0_ih (z + 1) (by omega) (by omega)
  refine g_ws (ws' := [(g0, .inr (11, [.int (nI th), .int (nI mn), .ref g1, .ref g2, .int (nI mb), .ref g3, .ref g4, .ref g5, .int (nI mw), .ref g6, .ref g7, .ref g8, .ref g9, .ref g10, .long msa, .long msb, .ref g11, .ref g12, .ref g13, .ref g14, .ref g15, .int (nI mz), .ref g16, .ref g17, .ref g18, .int (nI mv), .ref g19, .int (nI my), .ref g20, .ref g21, .ref g22, .int wt, .int wr, .int fo])), (g2, .inl (cJ, 256, .inr (.inl fa))), (g6, .inl (cI, 24, .inl (fun jj => nI (qA jj)))), (g7, .inl (cI, 24, .inl (fun jj => nI (qB jj)))), (g20, .inl (cI, 24, .inl (fun jj => nI (pk jj)))), (g21, .inl (cI, 24, .inl ti)), (g22, .inl (cJ, 24, .inr (.inl (fllL us 0 0))))]) rfl ?_
  exact hz0 (24 + 1) 0 (by omega) (by omega)
