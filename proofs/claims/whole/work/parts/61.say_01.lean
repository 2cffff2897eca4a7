set_option maxHeartbeats 4000000 in
set_option maxRecDepth 100000 in
theorem c_X7_sayNumber (l : Launch) (D : va_G) (cI cJ cB cZ : ClassId) (sz : Nat) (g0 : Nat) (g1 : Nat) (g2 : Nat) (g3 : Nat) (g4 : Nat) (g5 : Nat) (g6 : Nat) (g7 : Nat) (g8 : Nat) (g9 : Nat) (g10 : Nat) (g11 : Nat) (g12 : Nat) (g13 : Nat) (g14 : Nat) (g15 : Nat) (g16 : Nat) (g17 : Nat) (g18 : Nat) (g19 : Nat) (g20 : Nat) (g21 : Nat) (g22 : Nat) (th : Nat) (mn : Nat) (mb : Nat) (mw : Nat) (mz : Nat) (mv : Nat) (my : Nat) (msa : Int64) (msb : Int64) (w : Nat) (p : Nat) (L : List Nat) (v : Nat) (hp : p = L.length) (hp9 : p < 800) (hw : w < 2147483648) (hv : v < 1000000) : Met l yX7_sayNumber wsX7_sayNumber ({ frames := 1, cells := 0, slots := 0, locals := 21 }) (va_Pc [.ref g0, .long (lN v)] (pW D (TY cI cJ cB cZ) [(g0, .inr (11, [.int (nI th), .int (nI mn), .ref g1, .ref g2, .int (nI mb), .ref g3, .ref g4, .ref g5, .int (nI mw), .ref g6, .ref g7, .ref g8, .ref g9, .ref g10, .long msa, .long msb, .ref g11, .ref g12, .ref g13, .ref g14, .ref g15, .int (nI mz), .ref g16, .ref g17, .ref g18, .int (nI mv), .ref g19, .int (nI my), .ref g20, .ref g21, .ref g22, .int (nI w), .int (nI p), .int (gtx L w)]))] (fun _ => True) sz)) (va_Qv (fun (_ : Unit) => True) (qW D (TY cI cJ cB cZ) (va_A [(g0, .inr (11, [.int (nI th), .int (nI mn), .ref g1, .ref g2, .int (nI mb), .ref g3, .ref g4, .ref g5, .int (nI mw), .ref g6, .ref g7, .ref g8, .ref g9, .ref g10, .long msa, .long msb, .ref g11, .ref g12, .ref g13, .ref g14, .ref g15, .int (nI mz), .ref g16, .ref g17, .ref g18, .int (nI mv), .ref g19, .int (nI my), .ref g20, .ref g21, .ref g22, .int (nI w), .int (nI p), .int (gtx L w)]))] sz) (fun _ => [(g0, .inr (11, [.int (nI th), .int (nI mn), .ref g1, .ref g2, .int (nI mb), .ref g3, .ref g4, .ref g5, .int (nI mw), .ref g6, .ref g7, .ref g8, .ref g9, .ref g10, .long msa, .long msb, .ref g11, .ref g12, .ref g13, .ref g14, .ref g15, .int (nI mz), .ref g16, .ref g17, .ref g18, .int (nI mv), .ref g19, .int (nI my), .ref g20, .ref g21, .ref g22, .int (nI w), .int (nI (p + (dgl v).length)), .int (gtx (L ++ dgl v) w)]))])) (va_A [(g0, .inr (11, [.int (nI th), .int (nI mn), .ref g1, .ref g2, .int (nI mb), .ref g3, .ref g4, .ref g5, .int (nI mw), .ref g6, .ref g7, .ref g8, .ref g9, .ref g10, .long msa, .long msb, .ref g11, .ref g12, .ref g13, .ref g14, .ref g15, .int (nI mz), .ref g16, .ref g17, .ref g18, .int (nI mv), .ref g19, .int (nI my), .ref g20, .ref g21, .ref g22, .int (nI w), .int (nI p), .int (gtx L w)]))] sz)) 0 0 (va_A [(g0, .inr (11, [.int (nI th), .int (nI mn), .ref g1, .ref g2, .int (nI mb), .ref g3, .ref g4, .ref g5, .int (nI mw), .ref g6, .ref g7, .ref g8, .ref g9, .ref g10, .long msa, .long msb, .ref g11, .ref g12, .ref g13, .ref g14, .ref g15, .int (nI mz), .ref g16, .ref g17, .ref g18, .int (nI mv), .ref g19, .int (nI my), .ref g20, .ref g21, .ref g22, .int (nI w), .int (nI p), .int (gtx L w)]))] sz) := by
  refine gx_met RX7 rfl (by decide) rfl (Nat.le_of_ble_eq_true rfl) ?_
  intro X hl hDx hAx C hQ hXP hsz hin
  subst hl; subst hDx
  rw [← hAx] at hQ
  refine g_lv [0, 1] (lv' := [(0, .ref g0), (1, .long (lN v))]) rfl ?_
  refine g_lconst (v := 1) C dX7_sayNumber_0 1 rfl (by decide) ?_
  refine g_lstore_n C dX7_sayNumber_1 2 rfl (by decide) [1, 2, 0] (lv' := [(0, .ref g0), (1, .long (lN v)), (3, .long 1)]) rfl ?_
  have hk1 : ∀ (fuel k : Nat), k ≤ 5 → 6 ≤ k + fuel → (k = 0 ∨ 10 ^ k ≤ v) → gx X 0 0 [(g0, .inr (11, [.int (nI th), .int (nI mn), .ref g1, .ref g2, .int (nI mb), .ref g3, .ref g4, .ref g5, .int (nI mw), .ref g6, .ref g7, .ref g8, .ref g9, .ref g10, .long msa, .long msb, .ref g11, .ref g12, .ref g13, .ref g14, .ref g15, .int (nI mz), .ref g16, .ref g17, .ref g18, .int (nI mv), .ref g19, .int (nI my), .ref g20, .ref g21, .ref g22, .int (nI w), .int (nI p), .int (gtx L w)]))] 2 [(0, .ref g0), (1, .long (lN v)), (3, .long (lN (10 ^ k)))] [] := by
    intro fuel
    induction fuel with
    | zero => intro k h1 h2; exact absurd h2 (by omega)
    | succ fuel hk1_ih =>
      intro k hle hfu h10
      have h10r : 10 ^ k ≤ 10 ^ 6 := Nat.pow_le_pow_right (by omega) (by omega)
      have h10p : 0 < 10 ^ k := Nat.pow_pos (by omega)
      refine g_lload_n C dX7_sayNumber_2 3 rfl rfl ?_
      refine g_lload_n C dX7_sayNumber_3 4 rfl rfl ?_
      refine g_ldiv C dX7_sayNumber_4 5 rfl (fun q => absurd ((lN_eq (b := 0) (show 10 ^ k < 2 ^ 31 by omega) (by decide)).mp q) (by omega)) ?_
      refine g_topl (lN (v / 10 ^ k)) (lN_div (by omega) (by omega)) ?_
      refine g_ldc2 C (10) (by decide +kernel) dX7_sayNumber_5 8 rfl ?_
      refine g_lc_lt C dX7_sayNumber_8 9 rfl dX7_sayNumber_9 21 12 (by decide) rfl (fun c8 => ?_) (fun c8 => ?_)
      · have hl : ∀ (r : Nat), r ≤ 7 → ∀ (p' : Nat) (L' : List Nat), p' = L'.length → p' + r ≤ 900 → L' ++ dl v r = L ++ dgl v → gx X 0 0 [(g0, .inr (11, [.int (nI th), .int (nI mn), .ref g1, .ref g2, .int (nI mb), .ref g3, .ref g4, .ref g5, .int (nI mw), .ref g6, .ref g7, .ref g8, .ref g9, .ref g10, .long msa, .long msb, .ref g11, .ref g12, .ref g13, .ref g14, .ref g15, .int (nI mz), .ref g16, .ref g17, .ref g18, .int (nI mv), .ref g19, .int (nI my), .ref g20, .ref g21, .ref g22, .int (nI w), .int (nI p'), .int (gtx L' w)]))] 21 [(0, .ref g0), (1, .long (lN v)), (3, .long (sL r))] [] := by
          intro r
          induction r with
          | zero =>
            intro hr7 p' L' hp' hpr hLL
            have eL : L' = L ++ dgl v := by rw [← hLL]; show L' = L' ++ []; rw [List.append_nil]
            subst eL
            have eP : p' = p + (dgl v).length := by rw [hp', List.length_append]; omega
            subst eP
            rw [show sL 0 = lN 0 from rfl]
            refine g_lload_n C dX7_sayNumber_21 22 rfl rfl ?_
            refine g_lconst (v := 0) C dX7_sayNumber_22 23 rfl (by decide) ?_
            refine g_lc_le C dX7_sayNumber_23 24 rfl dX7_sayNumber_24 51 27 (by decide) rfl (fun c23 => ?_) (fun c23 => ?_)
            · exact g_vret C hQ (Nat.le_of_ble_eq_true rfl) (Nat.le_of_ble_eq_true rfl) dX7_sayNumber_51 () trivial rfl
            · exact absurd (by decide) c23
          | succ r ih =>
            intro hr7 p' L' hp' hpr hLL
            rw [show sL (r + 1) = lN (10 ^ r) from rfl]
            have h10r : 10 ^ r ≤ 10 ^ 6 := Nat.pow_le_pow_right (by omega) (by omega)
            have h10p : 0 < 10 ^ r := Nat.pow_pos (by omega)
            refine g_lload_n C dX7_sayNumber_21 22 rfl rfl ?_
            refine g_lconst (v := 0) C dX7_sayNumber_22 23 rfl (by decide) ?_
            refine g_lc_le C dX7_sayNumber_23 24 rfl dX7_sayNumber_24 51 27 (by decide) rfl (fun c23 => ?_) (fun c23 => ?_)
            · exact absurd c23 (fun q => absurd ((lN_le (a := 10 ^ r) (b := 0) (by omega) (by decide)).mp q) (by omega))
            · refine g_aload_n C dX7_sayNumber_27 28 rfl rfl ?_
              refine g_lload_n C dX7_sayNumber_28 29 rfl rfl ?_
              refine g_lload_n C dX7_sayNumber_29 30 rfl rfl ?_
              refine g_ldiv C dX7_sayNumber_30 31 rfl (fun q => absurd ((lN_eq (b := 0) (show 10 ^ r < 2 ^ 31 by omega) (by decide)).mp q) (by omega)) ?_
              refine g_topl (lN (v / 10 ^ r)) (lN_div (by omega) (by omega)) ?_
              refine g_ldc2 C (10) (by decide +kernel) dX7_sayNumber_31 34 rfl ?_
              refine g_lrem C dX7_sayNumber_34 35 rfl (by decide) ?_
              refine g_topl (lN (v / 10 ^ r % 10)) (lN_rem (b := 10) (Nat.lt_of_le_of_lt (Nat.div_le_self _ _) (by omega)) (by decide)) ?_
              refine g_l2i C dX7_sayNumber_35 36 rfl rfl ?_
              refine g_topi (nI (v / 10 ^ r % 10)) (lN_i _) ?_
              refine g_bipush (v := nI 48) C dX7_sayNumber_36 38 rfl (by decide) ?_
              refine g_iaddn C dX7_sayNumber_38 39 rfl ?_
              refine g_topi (nI (48 + v / 10 ^ r % 10)) (by rw [Nat.add_comm]) ?_
              refine g_callVv (ci := 11) (q0 := 0) (As := [.int (nI (48 + v / 10 ^ r % 10))]) (rest := []) (wr := []) (ws' := fun (_ : Unit) => [(g0, .inr (11, [.int (nI th), .int (nI mn), .ref g1, .ref g2, .int (nI mb), .ref g3, .ref g4, .ref g5, .int (nI mw), .ref g6, .ref g7, .ref g8, .ref g9, .ref g10, .long msa, .long msb, .ref g11, .ref g12, .ref g13, .ref g14, .ref g15, .int (nI mz), .ref g16, .ref g17, .ref g18, .int (nI mv), .ref g19, .int (nI my), .ref g20, .ref g21, .ref g22, .int (nI w), .int (nI (p' + 1)), .int (gtx (L' ++ [(48 + v / 10 ^ r % 10)]) w)]))]) C (fun sz => c_X7_say _ _ cI cJ cB cZ sz g0 g1 g2 g3 g4 g5 g6 g7 g8 g9 g10 g11 g12 g13 g14 g15 g16 g17 g18 g19 g20 g21 g22 th mn mb mw mz mv my msa msb w p' L' (48 + v / 10 ^ r % 10) hp' (by omega) hw) gx_XP0 1 gX7_sayNumber_X7_say rfl rfl rfl (by decide +kernel) ⟨Nat.le_of_ble_eq_true rfl, Nat.le_of_ble_eq_true rfl⟩ rfl rfl [0] [] [0] rfl (by decide) rfl (by decide) (by decide) (fun _ => rfl) (by decide) rfl rfl (Nat.le_of_ble_eq_true rfl) dX7_sayNumber_39 ⟨Nat.le_of_ble_eq_true rfl, Nat.le_of_ble_eq_true rfl⟩ 42 rfl (fun _ _ => ?_)
              refine g_lload_n C dX7_sayNumber_42 43 rfl rfl ?_
              refine g_ldc2 C (10) (by decide +kernel) dX7_sayNumber_43 46 rfl ?_
              refine g_ldiv C dX7_sayNumber_46 47 rfl (by decide) ?_
              refine g_topl (sL r) (sL_div r (by omega)) ?_
              refine g_lstore_n C dX7_sayNumber_47 48 rfl (by decide) [1, 2, 0] (lv' := [(0, .ref g0), (1, .long (lN v)), (3, .long (sL r))]) rfl ?_
              refine g_goto C dX7_sayNumber_48 21 (by decide) ?_
              exact ih (by omega) (p' + 1) (L' ++ [48 + v / 10 ^ r % 10]) (by rw [List.length_append]; simp only [List.length_cons, List.length_nil]; omega) (by omega) (by rw [← hLL, List.append_assoc]; rfl)
        have hdd : dl v (k + 1) = dgl v := dl_dgl k v (by rw [Nat.pow_succ]; have h9 := (lN_lt (b := 10) (Nat.lt_of_le_of_lt (Nat.div_le_self _ _) (show v < 2 ^ 31 by omega)) (by decide)).mp c8; have h8 := Nat.lt_mul_of_div_lt h9 h10p; omega) h10
        exact hl (k + 1) (by omega) p L hp (by omega) (by rw [hdd])
      · refine g_ldc2 C (10) (by decide +kernel) dX7_sayNumber_12 15 rfl ?_
        refine g_lload_n C dX7_sayNumber_15 16 rfl rfl ?_
        refine g_lmul C dX7_sayNumber_16 17 rfl ?_
        refine g_lstore_n C dX7_sayNumber_17 18 rfl (by decide) [1, 2, 0] (lv' := [(0, .ref g0), (1, .long (lN v)), (3, .long ((10) * (lN (10 ^ k))))]) rfl ?_
        refine g_goto C dX7_sayNumber_18 2 (by decide) ?_
        have h9 : 10 ≤ v / 10 ^ k := Nat.le_of_not_lt (fun q => c8 ((lN_lt (b := 10) (Nat.lt_of_le_of_lt (Nat.div_le_self _ _) (show v < 2 ^ 31 by omega)) (by decide)).mpr q))
        have h8 : 10 ^ (k + 1) ≤ v := by rw [Nat.pow_succ, Nat.mul_comm]; exact (Nat.le_div_iff_mul_le h10p).mp h9
        have hk6 : k < 5 := by rcases Nat.lt_or_ge k 5 with q | q; exact q; exact absurd (Nat.le_trans (Nat.pow_le_pow_right (by omega) (show 6 ≤ k + 1 by omega)) h8) (by omega)
        rw [show (10 : Int64) * lN (10 ^ k) = lN (10 ^ (k + 1)) from (lN_mul 10 _).trans (by rw [Nat.pow_succ, Nat.mul_comm])]
        exact hk1_ih (k + 1) (by omega) (by omega) (Or.inr h8)
  exact hk1 6 0 (by omega) (by omega) (Or.inl rfl)
