theorem iw_X7_isOn_X7 : ∀ w ∈ wsX70, w ∈ wsX7_isOn := by decide +kernel
set_option maxHeartbeats 4000000 in
set_option maxRecDepth 100000 in
theorem c_X7_isOn (l : Launch) (D : va_G) (cI cJ cB cZ : ClassId) (sz : Nat) (g0 : Nat) (g1 : Nat) (g2 : Nat) (g3 : Nat) (g4 : Nat) (g5 : Nat) (g6 : Nat) (g7 : Nat) (g8 : Nat) (g9 : Nat) (g10 : Nat) (g11 : Nat) (g12 : Nat) (g13 : Nat) (g14 : Nat) (g15 : Nat) (g16 : Nat) (g17 : Nat) (g18 : Nat) (g19 : Nat) (g20 : Nat) (g21 : Nat) (g22 : Nat) (th : Nat) (mn : Nat) (mb : Nat) (mw : Nat) (mz : Nat) (mv : Nat) (my : Nat) (msa : Int64) (msb : Int64) (wt : Int32) (wr : Int32) (fo : Int32) (mk : Nat → Nat) (v : Nat) (w : Nat) (hv6 : v < 6) (hw : w < 24) (hmk : ∀ k, k < 144 → mk k ≤ 2) : Met l yX7_isOn wsX7_isOn ({ frames := 0, cells := 0, slots := 0, locals := 0 }) (va_Pc [.ref g0, .int (nI v), .int (nI w)] (pW D (TY cI cJ cB cZ) [(g0, .inr (11, [.int (nI th), .int (nI mn), .ref g1, .ref g2, .int (nI mb), .ref g3, .ref g4, .ref g5, .int (nI mw), .ref g6, .ref g7, .ref g8, .ref g9, .ref g10, .long msa, .long msb, .ref g11, .ref g12, .ref g13, .ref g14, .ref g15, .int (nI mz), .ref g16, .ref g17, .ref g18, .int (nI mv), .ref g19, .int (nI my), .ref g20, .ref g21, .ref g22, .int wt, .int wr, .int fo])), (g19, .inl (cI, 144, .inl (fun jj => nI (mk jj))))] (fun _ => True) sz)) (va_Qi (fun (rv : Int32) (_ : Unit) => rv = bI (mon mk w (v + 1))) (qW D (TY cI cJ cB cZ) (va_A [(g0, .inr (11, [.int (nI th), .int (nI mn), .ref g1, .ref g2, .int (nI mb), .ref g3, .ref g4, .ref g5, .int (nI mw), .ref g6, .ref g7, .ref g8, .ref g9, .ref g10, .long msa, .long msb, .ref g11, .ref g12, .ref g13, .ref g14, .ref g15, .int (nI mz), .ref g16, .ref g17, .ref g18, .int (nI mv), .ref g19, .int (nI my), .ref g20, .ref g21, .ref g22, .int wt, .int wr, .int fo])), (g19, .inl (cI, 144, .inl (fun jj => nI (mk jj))))] sz) (fun _ => [(g0, .inr (11, [.int (nI th), .int (nI mn), .ref g1, .ref g2, .int (nI mb), .ref g3, .ref g4, .ref g5, .int (nI mw), .ref g6, .ref g7, .ref g8, .ref g9, .ref g10, .long msa, .long msb, .ref g11, .ref g12, .ref g13, .ref g14, .ref g15, .int (nI mz), .ref g16, .ref g17, .ref g18, .int (nI mv), .ref g19, .int (nI my), .ref g20, .ref g21, .ref g22, .int wt, .int wr, .int fo])), (g19, .inl (cI, 144, .inl (fun jj => nI (mk jj))))])) (va_A [(g0, .inr (11, [.int (nI th), .int (nI mn), .ref g1, .ref g2, .int (nI mb), .ref g3, .ref g4, .ref g5, .int (nI mw), .ref g6, .ref g7, .ref g8, .ref g9, .ref g10, .long msa, .long msb, .ref g11, .ref g12, .ref g13, .ref g14, .ref g15, .int (nI mz), .ref g16, .ref g17, .ref g18, .int (nI mv), .ref g19, .int (nI my), .ref g20, .ref g21, .ref g22, .int wt, .int wr, .int fo])), (g19, .inl (cI, 144, .inl (fun jj => nI (mk jj))))] sz)) 0 0 (va_A [(g0, .inr (11, [.int (nI th), .int (nI mn), .ref g1, .ref g2, .int (nI mb), .ref g3, .ref g4, .ref g5, .int (nI mw), .ref g6, .ref g7, .ref g8, .ref g9, .ref g10, .long msa, .long msb, .ref g11, .ref g12, .ref g13, .ref g14, .ref g15, .int (nI mz), .ref g16, .ref g17, .ref g18, .int (nI mv), .ref g19, .int (nI my), .ref g20, .ref g21, .ref g22, .int wt, .int wr, .int fo])), (g19, .inl (cI, 144, .inl (fun jj => nI (mk jj))))] sz) := by
  refine gx_met RX7 rfl (by decide) rfl (Nat.le_of_ble_eq_true rfl) ?_
  intro X hl hDx hAx C hQ hXP hsz hin
  subst hl; subst hDx
  rw [← hAx] at hQ
  refine g_lv [0, 1, 2] (lv' := [(0, .ref g0), (1, .int (nI v)), (2, .int (nI w))]) rfl ?_
  refine g_iload_n C dX7_isOn_0 1 rfl rfl ?_
  refine g_istore_n C dX7_isOn_1 2 rfl (by decide) [1, 2, 3, 0] (lv' := [(0, .ref g0), (1, .int (nI v)), (2, .int (nI w)), (3, .int (nI v))]) rfl ?_
  have hloop : ∀ (k : Nat), k ≤ 6 → mon mk w (v + 1) = mon mk w k → gx X 0 0 [(g0, .inr (11, [.int (nI th), .int (nI mn), .ref g1, .ref g2, .int (nI mb), .ref g3, .ref g4, .ref g5, .int (nI mw), .ref g6, .ref g7, .ref g8, .ref g9, .ref g10, .long msa, .long msb, .ref g11, .ref g12, .ref g13, .ref g14, .ref g15, .int (nI mz), .ref g16, .ref g17, .ref g18, .int (nI mv), .ref g19, .int (nI my), .ref g20, .ref g21, .ref g22, .int wt, .int wr, .int fo])), (g19, .inl (cI, 144, .inl (fun jj => nI (mk jj))))] 2 [(0, .ref g0), (1, .int (nI v)), (2, .int (nI w)), (3, .int (nI k + (-1)))] [] := by
    intro k
    induction k with
    | zero =>
      intro hk hv
      rw [show nI 0 + (-1) = -1 from rfl]
      refine g_iload_n C dX7_isOn_2 3 rfl rfl ?_
      refine g_if_lt C dX7_isOn_3 26 6 (by decide) rfl (fun c3 => ?_) (fun c3 => ?_)
      · refine g_iload_n C dX7_isOn_26 27 rfl rfl ?_
        refine g_if_lt C dX7_isOn_27 45 30 (by decide) rfl (fun c27 => ?_) (fun c27 => ?_)
        · refine g_iconst (v := nI 1) C dX7_isOn_45 46 rfl (by decide) ?_
          refine g_goto C dX7_isOn_46 50 (by decide) ?_
          exact g_zret C hQ (Nat.le_of_ble_eq_true rfl) (Nat.le_of_ble_eq_true rfl) dX7_isOn_50 rfl () (by rw [hv]; rfl) rfl
        · exact absurd (by decide) c27
      · exact absurd (by decide) c3
    | succ k ih =>
      intro hk hv
      rw [show nI (k + 1) + (-1) = nI k from pk_m1 k]
      have hm1 := hmk (24 * k + w) (by omega)
      refine g_iload_n C dX7_isOn_2 3 rfl rfl ?_
      refine g_if_lt_n C dX7_isOn_3 26 6 (by decide) rfl (by omega) ?_
      refine g_aload_n C dX7_isOn_6 7 rfl rfl ?_
      refine g_get C iw_X7_isOn_X7 0 rfl rfl 26 (by decide) (by decide +kernel) rfl rfl dX7_isOn_7 10 rfl ?_
      refine g_bipush (v := nI 24) C dX7_isOn_10 12 rfl (by decide) ?_
      refine g_iload_n C dX7_isOn_12 13 rfl rfl ?_
      refine g_imuln C dX7_isOn_13 14 rfl ?_
      refine g_iload_n C dX7_isOn_14 15 rfl rfl ?_
      refine g_iaddn C dX7_isOn_15 16 rfl ?_
      refine g_iald C 1 0 rfl rfl ((24 * k) + w) rfl (by omega) (by decide) dX7_isOn_16 17 rfl ?_
      refine g_if_ne_n C dX7_isOn_17 26 20 (by decide) rfl (by omega) (fun c17 => ?_) (fun c17 => ?_)
      · refine g_iload_n C dX7_isOn_26 27 rfl rfl ?_
        refine g_if_lt_n C dX7_isOn_27 45 30 (by decide) rfl (by omega) ?_
        refine g_aload_n C dX7_isOn_30 31 rfl rfl ?_
        refine g_get C iw_X7_isOn_X7 0 rfl rfl 26 (by decide) (by decide +kernel) rfl rfl dX7_isOn_31 34 rfl ?_
        refine g_bipush (v := nI 24) C dX7_isOn_34 36 rfl (by decide) ?_
        refine g_iload_n C dX7_isOn_36 37 rfl rfl ?_
        refine g_imuln C dX7_isOn_37 38 rfl ?_
        refine g_iload_n C dX7_isOn_38 39 rfl rfl ?_
        refine g_iaddn C dX7_isOn_39 40 rfl ?_
        refine g_iald C 1 0 rfl rfl ((24 * k) + w) rfl (by omega) (by decide) dX7_isOn_40 41 rfl ?_
        refine g_iconst (v := nI 1) C dX7_isOn_41 42 rfl (by decide) ?_
        refine g_icmp_ne_n C dX7_isOn_42 49 45 (by decide) rfl (by omega) (by omega) (fun c42 => ?_) (fun c42 => ?_)
        · refine g_iconst (v := nI 0) C dX7_isOn_49 50 rfl (by decide) ?_
          exact g_zret C hQ (Nat.le_of_ble_eq_true rfl) (Nat.le_of_ble_eq_true rfl) dX7_isOn_50 rfl () (by rw [hv, mon, if_neg (by omega)]; simp [bI, nI_one, nI_0, c42]) rfl
        · refine g_iconst (v := nI 1) C dX7_isOn_45 46 rfl (by decide) ?_
          refine g_goto C dX7_isOn_46 50 (by decide) ?_
          exact g_zret C hQ (Nat.le_of_ble_eq_true rfl) (Nat.le_of_ble_eq_true rfl) dX7_isOn_50 rfl () (by rw [hv, mon, if_neg (by omega)]; simp [bI, nI_one, nI_0, c42]) rfl
      · refine g_iinc (v := nI k + (-1)) C dX7_isOn_20 23 rfl rfl rfl (by decide) [1, 2, 3, 0] (lv' := [(0, .ref g0), (1, .int (nI v)), (2, .int (nI w)), (3, .int (nI k + (-1)))]) rfl ?_
        refine g_goto C dX7_isOn_23 2 (by decide) ?_
        exact ih (by omega) (hv.trans (by rw [mon, if_pos c17]))
  refine g_lv [0, 1, 2, 3] (lv' := [(0, .ref g0), (1, .int (nI v)), (2, .int (nI w)), (3, .int (nI (v + 1) + (-1)))]) (by rw [show nI (v + 1) + (-1) = nI v from pk_m1 v]; rfl) ?_
  exact hloop (v + 1) (by omega) rfl
