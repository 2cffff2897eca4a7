theorem iw_X7_topOf_X7 : ∀ w ∈ wsX70, w ∈ wsX7_topOf := by decide +kernel
set_option maxHeartbeats 4000000 in
set_option maxRecDepth 100000 in
theorem c_X7_topOf (l : Launch) (D : va_G) (cI cJ cB cZ : ClassId) (sz : Nat) (g0 : Nat) (g1 : Nat) (g2 : Nat) (g3 : Nat) (g4 : Nat) (g5 : Nat) (g6 : Nat) (g7 : Nat) (g8 : Nat) (g9 : Nat) (g10 : Nat) (g11 : Nat) (g12 : Nat) (g13 : Nat) (g14 : Nat) (g15 : Nat) (g16 : Nat) (g17 : Nat) (g18 : Nat) (g19 : Nat) (g20 : Nat) (g21 : Nat) (g22 : Nat) (th : Nat) (mn : Nat) (mb : Nat) (mw : Nat) (mz : Nat) (mv : Nat) (my : Nat) (msa : Int64) (msb : Int64) (wt : Int32) (wr : Int32) (fo : Int32) (ti : Nat → Int32) (tn : Nat → Nat) (k : Nat) (hk : k ≤ 24) (ht : ∀ i, i < k → ti i = nI (tn i)) (hb : ∀ i, i < k → tn i < 24) : Met l yX7_topOf wsX7_topOf ({ frames := 0, cells := 0, slots := 0, locals := 0 }) (va_Pc [.ref g0, .int (nI k)] (pW D (TY cI cJ cB cZ) [(g0, .inr (11, [.int (nI th), .int (nI mn), .ref g1, .ref g2, .int (nI mb), .ref g3, .ref g4, .ref g5, .int (nI mw), .ref g6, .ref g7, .ref g8, .ref g9, .ref g10, .long msa, .long msb, .ref g11, .ref g12, .ref g13, .ref g14, .ref g15, .int (nI mz), .ref g16, .ref g17, .ref g18, .int (nI mv), .ref g19, .int (nI my), .ref g20, .ref g21, .ref g22, .int wt, .int wr, .int fo])), (g21, .inl (cI, 24, .inl ti))] (fun _ => True) sz)) (va_Qi (fun (rv : Int32) (_ : Unit) => rv = nI (tpo tn k)) (qW D (TY cI cJ cB cZ) (va_A [(g0, .inr (11, [.int (nI th), .int (nI mn), .ref g1, .ref g2, .int (nI mb), .ref g3, .ref g4, .ref g5, .int (nI mw), .ref g6, .ref g7, .ref g8, .ref g9, .ref g10, .long msa, .long msb, .ref g11, .ref g12, .ref g13, .ref g14, .ref g15, .int (nI mz), .ref g16, .ref g17, .ref g18, .int (nI mv), .ref g19, .int (nI my), .ref g20, .ref g21, .ref g22, .int wt, .int wr, .int fo])), (g21, .inl (cI, 24, .inl ti))] sz) (fun _ => [(g0, .inr (11, [.int (nI th), .int (nI mn), .ref g1, .ref g2, .int (nI mb), .ref g3, .ref g4, .ref g5, .int (nI mw), .ref g6, .ref g7, .ref g8, .ref g9, .ref g10, .long msa, .long msb, .ref g11, .ref g12, .ref g13, .ref g14, .ref g15, .int (nI mz), .ref g16, .ref g17, .ref g18, .int (nI mv), .ref g19, .int (nI my), .ref g20, .ref g21, .ref g22, .int wt, .int wr, .int fo])), (g21, .inl (cI, 24, .inl ti))])) (va_A [(g0, .inr (11, [.int (nI th), .int (nI mn), .ref g1, .ref g2, .int (nI mb), .ref g3, .ref g4, .ref g5, .int (nI mw), .ref g6, .ref g7, .ref g8, .ref g9, .ref g10, .long msa, .long msb, .ref g11, .ref g12, .ref g13, .ref g14, .ref g15, .int (nI mz), .ref g16, .ref g17, .ref g18, .int (nI mv), .ref g19, .int (nI my), .ref g20, .ref g21, .ref g22, .int wt, .int wr, .int fo])), (g21, .inl (cI, 24, .inl ti))] sz)) 0 0 (va_A [(g0, .inr (11, [.int (nI th), .int (nI mn), .ref g1, .ref g2, .int (nI mb), .ref g3, .ref g4, .ref g5, .int (nI mw), .ref g6, .ref g7, .ref g8, .ref g9, .ref g10, .long msa, .long msb, .ref g11, .ref g12, .ref g13, .ref g14, .ref g15, .int (nI mz), .ref g16, .ref g17, .ref g18, .int (nI mv), .ref g19, .int (nI my), .ref g20, .ref g21, .ref g22, .int wt, .int wr, .int fo])), (g21, .inl (cI, 24, .inl ti))] sz) := by
  refine gx_met RX7 rfl (by decide) rfl (Nat.le_of_ble_eq_true rfl) ?_
  intro X hl hDx hAx C hQ hXP hsz hin
  subst hl; subst hDx
  rw [← hAx] at hQ
  refine g_lv [0, 1] (lv' := [(0, .ref g0), (1, .int (nI k))]) rfl ?_
  refine g_iconst (v := nI 0) C dX7_topOf_0 1 rfl (by decide) ?_
  refine g_istore_n C dX7_topOf_1 2 rfl (by decide) [1, 2, 0] (lv' := [(0, .ref g0), (1, .int (nI k)), (2, .int (nI 0))]) rfl ?_
  refine g_iconst (v := nI 0) C dX7_topOf_2 3 rfl (by decide) ?_
  refine g_istore_n C dX7_topOf_3 4 rfl (by decide) [1, 2, 3, 0] (lv' := [(0, .ref g0), (1, .int (nI k)), (2, .int (nI 0)), (3, .int (nI 0))]) rfl ?_
  have hloop : ∀ (fuel i : Nat), i ≤ k → k + 1 ≤ i + fuel → gx X 0 0 [(g0, .inr (11, [.int (nI th), .int (nI mn), .ref g1, .ref g2, .int (nI mb), .ref g3, .ref g4, .ref g5, .int (nI mw), .ref g6, .ref g7, .ref g8, .ref g9, .ref g10, .long msa, .long msb, .ref g11, .ref g12, .ref g13, .ref g14, .ref g15, .int (nI mz), .ref g16, .ref g17, .ref g18, .int (nI mv), .ref g19, .int (nI my), .ref g20, .ref g21, .ref g22, .int wt, .int wr, .int fo])), (g21, .inl (cI, 24, .inl ti))] 4 [(0, .ref g0), (1, .int (nI k)), (2, .int (nI (tpo tn i))), (3, .int (nI i))] [] := by
    intro fuel
    induction fuel with
    | zero => intro i h1 h2; exact absurd h2 (by omega)
    | succ fuel hloop_ih =>
      intro i hle hfu
      refine g_iload_n C dX7_topOf_4 5 rfl rfl ?_
      refine g_iload_n C dX7_topOf_5 6 rfl rfl ?_
      refine g_icmp_ge_n C dX7_topOf_6 40 9 (by decide) rfl (by omega) (by omega) (fun c6 => ?_) (fun c6 => ?_)
      · have e_i : k = i := by omega
        subst e_i
        refine g_iload_n C dX7_topOf_40 41 rfl rfl ?_
        exact g_iret C hQ (Nat.le_of_ble_eq_true rfl) (Nat.le_of_ble_eq_true rfl) dX7_topOf_41 () rfl rfl
      · have hb1 := hb i (by omega)
        have hb2 := tpo_le tn 24 i (fun j hj => hb j (by omega))
        refine g_aload_n C dX7_topOf_9 10 rfl rfl ?_
        refine g_get C iw_X7_topOf_X7 0 rfl rfl 29 (by decide) (by decide +kernel) rfl rfl dX7_topOf_10 13 rfl ?_
        refine g_iload_n C dX7_topOf_13 14 rfl rfl ?_
        refine g_iald C 1 0 rfl rfl i rfl (by omega) (by decide) dX7_topOf_14 15 rfl ?_
        refine g_topi (nI (tn i)) (ht i (by omega)) ?_
        refine g_iconst (v := nI 1) C dX7_topOf_15 16 rfl (by decide) ?_
        refine g_iaddn C dX7_topOf_16 17 rfl ?_
        refine g_iload_n C dX7_topOf_17 18 rfl rfl ?_
        refine g_icmp_le_n C dX7_topOf_18 32 21 (by decide) rfl (by omega) (by omega) (fun c18 => ?_) (fun c18 => ?_)
        · refine g_iload_n C dX7_topOf_32 33 rfl rfl ?_
          refine g_istore_n C dX7_topOf_33 34 rfl (by decide) [1, 2, 0, 3] (lv' := [(0, .ref g0), (1, .int (nI k)), (2, .int (nI (tpo tn i))), (3, .int (nI i))]) rfl ?_
          refine g_iinc (v := nI (i + 1)) C dX7_topOf_34 37 rfl rfl (nI_add i 1) (by decide) [1, 2, 3, 0] (lv' := [(0, .ref g0), (1, .int (nI k)), (2, .int (nI (tpo tn i))), (3, .int (nI (i + 1)))]) rfl ?_
          refine g_goto C dX7_topOf_37 4 (by decide) ?_
          rw [show tpo tn i = tpo tn (i + 1) from by simp only [tpo]; rw [if_neg (by omega)]]
          exact hloop_ih (i + 1) (by omega) (by omega)
        · refine g_aload_n C dX7_topOf_21 22 rfl rfl ?_
          refine g_get C iw_X7_topOf_X7 0 rfl rfl 29 (by decide) (by decide +kernel) rfl rfl dX7_topOf_22 25 rfl ?_
          refine g_iload_n C dX7_topOf_25 26 rfl rfl ?_
          refine g_iald C 1 0 rfl rfl i rfl (by omega) (by decide) dX7_topOf_26 27 rfl ?_
          refine g_topi (nI (tn i)) (ht i (by omega)) ?_
          refine g_iconst (v := nI 1) C dX7_topOf_27 28 rfl (by decide) ?_
          refine g_iaddn C dX7_topOf_28 29 rfl ?_
          refine g_goto C dX7_topOf_29 33 (by decide) ?_
          refine g_istore_n C dX7_topOf_33 34 rfl (by decide) [1, 2, 0, 3] (lv' := [(0, .ref g0), (1, .int (nI k)), (2, .int (nI ((tn i) + 1))), (3, .int (nI i))]) rfl ?_
          refine g_iinc (v := nI (i + 1)) C dX7_topOf_34 37 rfl rfl (nI_add i 1) (by decide) [1, 2, 3, 0] (lv' := [(0, .ref g0), (1, .int (nI k)), (2, .int (nI ((tn i) + 1))), (3, .int (nI (i + 1)))]) rfl ?_
          refine g_goto C dX7_topOf_37 4 (by decide) ?_
          rw [show tn i + 1 = tpo tn (i + 1) from by simp only [tpo]; rw [if_pos (by omega)]]
          exact hloop_ih (i + 1) (by omega) (by omega)
  exact hloop (k + 1) 0 (by omega) (by omega)
