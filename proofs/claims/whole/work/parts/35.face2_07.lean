theorem iw_X6_slack_X6 : ∀ w ∈ wsX60, w ∈ wsX6_slack := by decide +kernel
set_option maxHeartbeats 4000000 in
set_option maxRecDepth 100000 in
theorem c_X6_slack (l : Launch) (D : va_G) (cI cJ cB cZ : ClassId) (sz : Nat) (h0 : Nat) (t0 : Nat) (w0 : Nat) (r0 : Nat) (m0 : Nat) (s0 : Nat) (v0 : Nat) (b0 : Nat) (sa : Int64) (sb : Int64) (x : Int64) (y : Int64)  : vx_Met l yX6_slack wsX6_slack ({ frames := 7, cells := 2, slots := 12, locals := 107 }) (va_Pc [.ref h0, .long x, .long y] (pW D (TY cI cJ cB cZ) [(h0, .inr (10, [.ref t0, .ref w0, .ref r0, .ref m0, .ref s0, .ref v0, .ref b0, .long sa, .long sb]))] (pT l [] [(h0, .inr (10, [.ref t0, .ref w0, .ref r0, .ref m0, .ref s0, .ref v0, .ref b0, .long sa, .long sb]))] sz) sz)) (va_Qi (fun (rv : Int32) (u : Int64 × Int64) => wiN y 1 1000 ∧ wiN x 0 y ∧ rv = bI (!(decide (x = sa) && decide (y = sb))) ∧ u.1 = x ∧ u.2 = y) (qW D (TY cI cJ cB cZ) (va_A [(h0, .inr (10, [.ref t0, .ref w0, .ref r0, .ref m0, .ref s0, .ref v0, .ref b0, .long sa, .long sb]))] sz) (fun u => [(h0, .inr (10, [.ref t0, .ref w0, .ref r0, .ref m0, .ref s0, .ref v0, .ref b0, .long u.1, .long u.2]))])) (va_A [(h0, .inr (10, [.ref t0, .ref w0, .ref r0, .ref m0, .ref s0, .ref v0, .ref b0, .long sa, .long sb]))] sz)) (xX D (TY cI cJ cB cZ) (va_A [(h0, .inr (10, [.ref t0, .ref w0, .ref r0, .ref m0, .ref s0, .ref v0, .ref b0, .long sa, .long sb]))] sz) [(h0, .inr (10, [.ref t0, .ref w0, .ref r0, .ref m0, .ref s0, .ref v0, .ref b0, .long sa, .long sb]))] (fun E => E = xIA ∧ ¬ (wiN y 1 1000 ∧ wiN x 0 y))) 2 12 (va_A [(h0, .inr (10, [.ref t0, .ref w0, .ref r0, .ref m0, .ref s0, .ref v0, .ref b0, .long sa, .long sb]))] sz) := by
  refine gx_metX RX6 rfl (by decide) rfl (Nat.le_of_ble_eq_true rfl) ?_
  intro X hl hDx hAx C hQ hno hXP hsz hin
  subst hl; subst hDx
  unfold pT at hXP
  rw [← hAx] at hQ hXP
  refine g_lv [0, 1, 2] (lv' := [(0, .ref h0), (1, .long x), (3, .long y)]) rfl ?_
  refine g_lload_n C dX6_slack_0 1 rfl rfl ?_
  refine g_lconst (v := 1) C dX6_slack_1 2 rfl (by decide) ?_
  refine g_ldc2 C (1000) (by decide +kernel) dX6_slack_2 5 rfl ?_
  refine g_callSvX (As := [.long y, .long 1, .long (1000)]) (rest := []) (wr := [(h0, .inr (10, [.ref t0, .ref w0, .ref r0, .ref m0, .ref s0, .ref v0, .ref b0, .long sa, .long sb]))]) (ws' := fun (_ : Unit) => [(h0, .inr (10, [.ref t0, .ref w0, .ref r0, .ref m0, .ref s0, .ref v0, .ref b0, .long sa, .long sb]))]) C hQ hno (fun sz => c_X6_checkNumber _ _ cI cJ cB cZ sz y 1 (1000) ) (gx_thr hXP (by decide +kernel)) 3 gX6_slack_X6_checkNumber rfl rfl rfl (by decide +kernel) ⟨Nat.le_of_ble_eq_true rfl, Nat.le_of_ble_eq_true rfl⟩ [] [0] [0] rfl (by decide) rfl (by decide) (by decide) (fun _ => rfl) (by decide) rfl rfl rfl (Nat.le_of_ble_eq_true rfl) dX6_slack_5 ⟨Nat.le_of_ble_eq_true rfl, Nat.le_of_ble_eq_true rfl⟩ ⟨Nat.le_of_ble_eq_true rfl, Nat.le_of_ble_eq_true rfl⟩ 8 rfl (fun E hE => ⟨hE.1, fun q => hE.2 q.1⟩) (fun _ hr5 => ?_)
  refine g_lload_n C dX6_slack_8 9 rfl rfl ?_
  refine g_lconst (v := 0) C dX6_slack_9 10 rfl (by decide) ?_
  refine g_lload_n C dX6_slack_10 11 rfl rfl ?_
  refine g_callSvX (As := [.long x, .long 0, .long y]) (rest := []) (wr := [(h0, .inr (10, [.ref t0, .ref w0, .ref r0, .ref m0, .ref s0, .ref v0, .ref b0, .long sa, .long sb]))]) (ws' := fun (_ : Unit) => [(h0, .inr (10, [.ref t0, .ref w0, .ref r0, .ref m0, .ref s0, .ref v0, .ref b0, .long sa, .long sb]))]) C hQ hno (fun sz => c_X6_checkNumber _ _ cI cJ cB cZ sz x 0 y ) (gx_thr hXP (by decide +kernel)) 3 gX6_slack_X6_checkNumber rfl rfl rfl (by decide +kernel) ⟨Nat.le_of_ble_eq_true rfl, Nat.le_of_ble_eq_true rfl⟩ [] [0] [0] rfl (by decide) rfl (by decide) (by decide) (fun _ => rfl) (by decide) rfl rfl rfl (Nat.le_of_ble_eq_true rfl) dX6_slack_11 ⟨Nat.le_of_ble_eq_true rfl, Nat.le_of_ble_eq_true rfl⟩ ⟨Nat.le_of_ble_eq_true rfl, Nat.le_of_ble_eq_true rfl⟩ 14 rfl (fun E hE => ⟨hE.1, fun q => hE.2 q.2⟩) (fun _ hr11 => ?_)
  refine g_lload_n C dX6_slack_14 15 rfl rfl ?_
  refine g_aload_n C dX6_slack_15 16 rfl rfl ?_
  refine g_get C iw_X6_slack_X6 0 rfl rfl 7 (by decide) (by decide +kernel) rfl rfl dX6_slack_16 19 rfl ?_
  refine g_lc_ne C dX6_slack_19 20 rfl dX6_slack_20 32 23 (by decide) rfl (fun c19 => ?_) (fun c19 => ?_)
  · refine g_iconst (v := nI 1) C dX6_slack_32 33 rfl (by decide) ?_
    refine g_goto C dX6_slack_33 37 (by decide) ?_
    refine g_istore C dX6_slack_37 39 rfl (by decide) [1, 2, 3, 0] (lv' := [(0, .ref h0), (1, .long x), (3, .long y), (5, .int (nI 1))]) rfl ?_
    refine g_aload_n C dX6_slack_39 40 rfl rfl ?_
    refine g_lload_n C dX6_slack_40 41 rfl rfl ?_
    refine g_put C (ty := .long) iw_X6_slack_X6 tyX6 tyX6_ok nmX6 0 rfl rfl 7 (by decide) (by decide +kernel) rfl rfl (by decide +kernel) rfl rfl (Nat.le_of_ble_eq_true rfl) dX6_slack_41 44 rfl (ws' := [(h0, .inr (10, [.ref t0, .ref w0, .ref r0, .ref m0, .ref s0, .ref v0, .ref b0, .long x, .long sb]))]) rfl ?_
    refine g_aload_n C dX6_slack_44 45 rfl rfl ?_
    refine g_lload_n C dX6_slack_45 46 rfl rfl ?_
    refine g_put C (ty := .long) iw_X6_slack_X6 tyX6 tyX6_ok nmX6 0 rfl rfl 8 (by decide) (by decide +kernel) rfl rfl (by decide +kernel) rfl rfl (Nat.le_of_ble_eq_true rfl) dX6_slack_46 49 rfl (ws' := [(h0, .inr (10, [.ref t0, .ref w0, .ref r0, .ref m0, .ref s0, .ref v0, .ref b0, .long x, .long y]))]) rfl ?_
    refine g_iload C dX6_slack_49 51 rfl rfl ?_
    exact g_zretX C hQ (Nat.le_of_ble_eq_true rfl) (Nat.le_of_ble_eq_true rfl) dX6_slack_51 rfl (x, y) ⟨hr5, hr11, by simp [bI, nI_one, nI_0, c19], rfl, rfl⟩ (by first | (dsimp only; done) | rfl)
  · refine g_lload_n C dX6_slack_23 24 rfl rfl ?_
    refine g_aload_n C dX6_slack_24 25 rfl rfl ?_
    refine g_get C iw_X6_slack_X6 0 rfl rfl 8 (by decide) (by decide +kernel) rfl rfl dX6_slack_25 28 rfl ?_
    refine g_lc_eq C dX6_slack_28 29 rfl dX6_slack_29 36 32 (by decide) rfl (fun c28 => ?_) (fun c28 => ?_)
    · refine g_iconst (v := nI 0) C dX6_slack_36 37 rfl (by decide) ?_
      refine g_istore C dX6_slack_37 39 rfl (by decide) [1, 2, 3, 0] (lv' := [(0, .ref h0), (1, .long x), (3, .long y), (5, .int (nI 0))]) rfl ?_
      refine g_aload_n C dX6_slack_39 40 rfl rfl ?_
      refine g_lload_n C dX6_slack_40 41 rfl rfl ?_
      refine g_put C (ty := .long) iw_X6_slack_X6 tyX6 tyX6_ok nmX6 0 rfl rfl 7 (by decide) (by decide +kernel) rfl rfl (by decide +kernel) rfl rfl (Nat.le_of_ble_eq_true rfl) dX6_slack_41 44 rfl (ws' := [(h0, .inr (10, [.ref t0, .ref w0, .ref r0, .ref m0, .ref s0, .ref v0, .ref b0, .long x, .long sb]))]) rfl ?_
      refine g_aload_n C dX6_slack_44 45 rfl rfl ?_
      refine g_lload_n C dX6_slack_45 46 rfl rfl ?_
      refine g_put C (ty := .long) iw_X6_slack_X6 tyX6 tyX6_ok nmX6 0 rfl rfl 8 (by decide) (by decide +kernel) rfl rfl (by decide +kernel) rfl rfl (Nat.le_of_ble_eq_true rfl) dX6_slack_46 49 rfl (ws' := [(h0, .inr (10, [.ref t0, .ref w0, .ref r0, .ref m0, .ref s0, .ref v0, .ref b0, .long x, .long y]))]) rfl ?_
      refine g_iload C dX6_slack_49 51 rfl rfl ?_
      exact g_zretX C hQ (Nat.le_of_ble_eq_true rfl) (Nat.le_of_ble_eq_true rfl) dX6_slack_51 rfl (x, y) ⟨hr5, hr11, by simp [bI, nI_one, nI_0, c19, c28], rfl, rfl⟩ (by first | (dsimp only; done) | rfl)
    · refine g_iconst (v := nI 1) C dX6_slack_32 33 rfl (by decide) ?_
      refine g_goto C dX6_slack_33 37 (by decide) ?_
      refine g_istore C dX6_slack_37 39 rfl (by decide) [1, 2, 3, 0] (lv' := [(0, .ref h0), (1, .long x), (3, .long y), (5, .int (nI 1))]) rfl ?_
      refine g_aload_n C dX6_slack_39 40 rfl rfl ?_
      refine g_lload_n C dX6_slack_40 41 rfl rfl ?_
      refine g_put C (ty := .long) iw_X6_slack_X6 tyX6 tyX6_ok nmX6 0 rfl rfl 7 (by decide) (by decide +kernel) rfl rfl (by decide +kernel) rfl rfl (Nat.le_of_ble_eq_true rfl) dX6_slack_41 44 rfl (ws' := [(h0, .inr (10, [.ref t0, .ref w0, .ref r0, .ref m0, .ref s0, .ref v0, .ref b0, .long x, .long sb]))]) rfl ?_
      refine g_aload_n C dX6_slack_44 45 rfl rfl ?_
      refine g_lload_n C dX6_slack_45 46 rfl rfl ?_
      refine g_put C (ty := .long) iw_X6_slack_X6 tyX6 tyX6_ok nmX6 0 rfl rfl 8 (by decide) (by decide +kernel) rfl rfl (by decide +kernel) rfl rfl (Nat.le_of_ble_eq_true rfl) dX6_slack_46 49 rfl (ws' := [(h0, .inr (10, [.ref t0, .ref w0, .ref r0, .ref m0, .ref s0, .ref v0, .ref b0, .long x, .long y]))]) rfl ?_
      refine g_iload C dX6_slack_49 51 rfl rfl ?_
      exact g_zretX C hQ (Nat.le_of_ble_eq_true rfl) (Nat.le_of_ble_eq_true rfl) dX6_slack_51 rfl (x, y) ⟨hr5, hr11, by simp [bI, nI_one, nI_0, c19, c28], rfl, rfl⟩ (by first | (dsimp only; done) | rfl)
