set_option maxHeartbeats 4000000 in
set_option maxRecDepth 100000 in
theorem c_L_load (l : Launch) (D : va_G) (cI cJ cB cZ : ClassId) (sz : Nat) (h0 : Nat) (t0 : Nat) (w0 : Nat) (r0 : Nat) (m0 : Nat) (s0 : Nat) (v0 : Nat) (b0 : Nat) (sa : Int64) (sb : Int64) (w1 : Nat) (w2 : Nat) (w3 : Nat) (w4 : Nat) (w5 : Nat) (wn : Nat) (lo : Nat → Int64) (dr : Nat → Int64) (x : Int32) (y : Int64) (z : Int64) (o0 : Nat) (of : Nat → Int64) (hw : wn ≤ 24) : Met l yL_load wsL_load ({ frames := 8, cells := 3, slots := 18, locals := 132 }) (va_Pc [.ref h0, .int x, .long y, .long z, .ref o0] (pW D (TY cI cJ cB cZ) [(h0, .inr (10, [.ref t0, .ref w0, .ref r0, .ref m0, .ref s0, .ref v0, .ref b0, .long sa, .long sb])), (w0, .inr (9, [.ref w1, .ref w2, .ref w3, .ref w4, .ref w5, .int (nI wn)])), (w4, .inl (cJ, 24, .inr (.inl lo))), (w5, .inl (cJ, 24, .inr (.inl dr))), (o0, .inl (cJ, 1, .inr (.inl of)))] (pK l [] [(h0, .inr (10, [.ref t0, .ref w0, .ref r0, .ref m0, .ref s0, .ref v0, .ref b0, .long sa, .long sb])), (w0, .inr (9, [.ref w1, .ref w2, .ref w3, .ref w4, .ref w5, .int (nI wn)])), (w4, .inl (cJ, 24, .inr (.inl lo))), (w5, .inl (cJ, 24, .inr (.inl dr))), (o0, .inl (cJ, 1, .inr (.inl of)))] sz) sz)) (va_Qi (fun (rv : Int32) (u : (Nat → Int64) × (Nat → Int64) × (Nat → Int64)) => (rv = nI 0 ∧ ∃ ra : Int32, (inR x wn ∧ wiN y 0 1000000 ∧ wiN z 0 1000000 ∧ ra = bI (!(decide (lo (cN x) = y) && decide (dr (cN x) = z))) ∧ u.1 = vp_updL lo (cN x) y ∧ u.2.1 = vp_updL dr (cN x) z) ∧ u.2.2 0 = (if ra = 0 then 0 else 1)) ∨ (rv = nI 1 ∧ (¬ inR x wn) ∧ u.1 = lo ∧ u.2.1 = dr) ∨ (rv = nI 2 ∧ (inR x wn ∧ ¬ (wiN y 0 1000000 ∧ wiN z 0 1000000)) ∧ u.1 = lo ∧ u.2.1 = dr)) (qW D (TY cI cJ cB cZ) (va_A [(h0, .inr (10, [.ref t0, .ref w0, .ref r0, .ref m0, .ref s0, .ref v0, .ref b0, .long sa, .long sb])), (w0, .inr (9, [.ref w1, .ref w2, .ref w3, .ref w4, .ref w5, .int (nI wn)])), (w4, .inl (cJ, 24, .inr (.inl lo))), (w5, .inl (cJ, 24, .inr (.inl dr))), (o0, .inl (cJ, 1, .inr (.inl of)))] sz) (fun u => [(h0, .inr (10, [.ref t0, .ref w0, .ref r0, .ref m0, .ref s0, .ref v0, .ref b0, .long sa, .long sb])), (w0, .inr (9, [.ref w1, .ref w2, .ref w3, .ref w4, .ref w5, .int (nI wn)])), (w4, .inl (cJ, 24, .inr (.inl u.1))), (w5, .inl (cJ, 24, .inr (.inl u.2.1))), (o0, .inl (cJ, 1, .inr (.inl u.2.2)))])) (va_A [(h0, .inr (10, [.ref t0, .ref w0, .ref r0, .ref m0, .ref s0, .ref v0, .ref b0, .long sa, .long sb])), (w0, .inr (9, [.ref w1, .ref w2, .ref w3, .ref w4, .ref w5, .int (nI wn)])), (w4, .inl (cJ, 24, .inr (.inl lo))), (w5, .inl (cJ, 24, .inr (.inl dr))), (o0, .inl (cJ, 1, .inr (.inl of)))] sz)) 3 18 (va_A [(h0, .inr (10, [.ref t0, .ref w0, .ref r0, .ref m0, .ref s0, .ref v0, .ref b0, .long sa, .long sb])), (w0, .inr (9, [.ref w1, .ref w2, .ref w3, .ref w4, .ref w5, .int (nI wn)])), (w4, .inl (cJ, 24, .inr (.inl lo))), (w5, .inl (cJ, 24, .inr (.inl dr))), (o0, .inl (cJ, 1, .inr (.inl of)))] sz) := by
  refine gx_metW RL rfl (by decide) rfl (Nat.le_of_ble_eq_true rfl) ?_
  intro X hl hDx hAx C hQ htab hXP hsz
  subst hl; subst hDx
  unfold pK pTs pT pS at hXP
  rw [← hAx] at hQ hXP
  have hNc := hXP.2
  have hX0 : stt (gx_A X) (gx_s X) (gx_s X).heap := hXP.1.2
  replace hXP := hXP.1.1
  refine g_lv [0, 1, 2, 3, 4] (lv' := [(0, .ref h0), (1, .int x), (2, .long y), (4, .long z), (6, .ref o0)]) rfl ?_
  refine g_aload C dL_load_0 2 rfl rfl ?_
  refine g_iconst (v := nI 0) C dL_load_2 3 rfl (by decide) ?_
  refine g_aload_n C dL_load_3 4 rfl rfl ?_
  refine g_iload_n C dL_load_4 5 rfl rfl ?_
  refine g_lload_n C dL_load_5 6 rfl rfl ?_
  refine g_lload C dL_load_6 8 rfl rfl ?_
  refine g_callViC (ci := 10) (q0 := 0) (As := [.int x, .long y, .long z]) (rest := [.int (nI 0), .ref o0]) (wr := [(o0, .inl (cJ, 1, .inr (.inl of)))]) (ws' := fun (u : (Nat → Int64) × (Nat → Int64)) => [(h0, .inr (10, [.ref t0, .ref w0, .ref r0, .ref m0, .ref s0, .ref v0, .ref b0, .long sa, .long sb])), (w0, .inr (9, [.ref w1, .ref w2, .ref w3, .ref w4, .ref w5, .int (nI wn)])), (w4, .inl (cJ, 24, .inr (.inl u.1))), (w5, .inl (cJ, 24, .inr (.inl u.2))), (o0, .inl (cJ, 1, .inr (.inl of)))]) C (fun sz => c_X6_load _ _ cI cJ cB cZ sz h0 t0 w0 r0 m0 s0 v0 b0 sa sb w1 w2 w3 w4 w5 wn lo dr x y z hw) (gx_thr hXP (by decide +kernel)) 3 gL_load_X6_load rfl rfl rfl (by decide +kernel) ⟨Nat.le_of_ble_eq_true rfl, Nat.le_of_ble_eq_true rfl⟩ rfl rfl [0, 1, 2, 3] [4] [1, 2, 3, 4, 0] rfl (by decide) rfl (by decide) (by decide) (fun _ => rfl) (by decide) (WX := [(h0, .inr (10, [.ref t0, .ref w0, .ref r0, .ref m0, .ref s0, .ref v0, .ref b0, .long sa, .long sb])), (w0, .inr (9, [.ref w1, .ref w2, .ref w3, .ref w4, .ref w5, .int (nI wn)])), (w4, .inl (cJ, 24, .inr (.inl lo))), (w5, .inl (cJ, 24, .inr (.inl dr))), (o0, .inl (cJ, 1, .inr (.inl of)))]) rfl rfl rfl (Nat.le_of_ble_eq_true rfl) dL_load_8 ⟨Nat.le_of_ble_eq_true rfl, Nat.le_of_ble_eq_true rfl⟩ 11 rfl (fun E qx hE => ?_) (fun r u hr8 => ?_)
  · rcases hE with ⟨rfl, hE⟩ | ⟨rfl, hE⟩
    · refine ⟨[], ⟨0, 20, 23, 19⟩, [⟨0, 20, 27, 13⟩], htab, fun z hz => absurd hz List.not_mem_nil, by decide, by decide, xIO, by decide +kernel, hXP.2.2.2.2.2.2.2 _ (List.mem_of_getElem? (i := 3) rfl), ?_⟩
      show gx X _ _ _ 23 _ _
      refine g_astore C dL_load_23 25 rfl (by decide) [1, 2, 3, 4, 5, 0] (lv' := [(0, .ref h0), (1, .int x), (2, .long y), (4, .long z), (6, .ref o0), (7, .ref qx)]) rfl ?_
      refine g_iconst (v := nI 1) C dL_load_25 26 rfl (by decide) ?_
      exact g_iret C hQ (Nat.le_of_ble_eq_true rfl) (Nat.le_of_ble_eq_true rfl) dL_load_26 (lo, dr, of) (Or.inr (Or.inl ⟨rfl, hE, rfl, rfl⟩)) (by first | (dsimp only; done) | rfl)
    · refine ⟨[⟨0, 20, 23, 19⟩], ⟨0, 20, 27, 13⟩, [], htab, fun z hz => by rw [List.mem_singleton.mp hz]; exact ⟨by decide, xIO, by decide +kernel, hNc⟩, by decide, by decide, xIA, by decide +kernel, hXP.2.2.2.2.2.2.2 _ (List.mem_of_getElem? (i := 4) rfl), ?_⟩
      show gx X _ _ _ 27 _ _
      refine g_astore C dL_load_27 29 rfl (by decide) [1, 2, 3, 4, 5, 0] (lv' := [(0, .ref h0), (1, .int x), (2, .long y), (4, .long z), (6, .ref o0), (7, .ref qx)]) rfl ?_
      refine g_iconst (v := nI 2) C dL_load_29 30 rfl (by decide) ?_
      exact g_iret C hQ (Nat.le_of_ble_eq_true rfl) (Nat.le_of_ble_eq_true rfl) dL_load_30 (lo, dr, of) (Or.inr (Or.inr ⟨rfl, hE, rfl, rfl⟩)) (by first | (dsimp only; done) | rfl)
  obtain ⟨lo1_1, dr1_2⟩ := u
  try dsimp only at hr8
  obtain ⟨r8, rfl⟩ : ∃ z, z = r := ⟨_, rfl⟩
  refine g_if_eq C dL_load_11 18 14 (by decide) rfl (fun c11 => ?_) (fun c11 => ?_)
  · refine g_lconst (v := 0) C dL_load_18 19 rfl (by decide) ?_
    refine g_last C 4 1 rfl rfl 0 rfl (by omega) (by decide) dL_load_19 20 rfl (ws' := [(h0, .inr (10, [.ref t0, .ref w0, .ref r0, .ref m0, .ref s0, .ref v0, .ref b0, .long sa, .long sb])), (w0, .inr (9, [.ref w1, .ref w2, .ref w3, .ref w4, .ref w5, .int (nI wn)])), (w4, .inl (cJ, 24, .inr (.inl lo1_1))), (w5, .inl (cJ, 24, .inr (.inl dr1_2))), (o0, .inl (cJ, 1, .inr (.inl (vp_updL of 0 0))))]) rfl ?_
    refine g_goto C dL_load_20 31 (by decide) ?_
    refine g_iconst (v := nI 0) C dL_load_31 32 rfl (by decide) ?_
    exact g_iret C hQ (Nat.le_of_ble_eq_true rfl) (Nat.le_of_ble_eq_true rfl) dL_load_32 (lo1_1, dr1_2, vp_updL of 0 0) (Or.inl ⟨rfl, r8, hr8, by (try dsimp only); rw [updL_at, if_pos c11]⟩) (by first | (dsimp only; done) | rfl)
  · refine g_lconst (v := 1) C dL_load_14 15 rfl (by decide) ?_
    refine g_goto C dL_load_15 19 (by decide) ?_
    refine g_last C 4 1 rfl rfl 0 rfl (by omega) (by decide) dL_load_19 20 rfl (ws' := [(h0, .inr (10, [.ref t0, .ref w0, .ref r0, .ref m0, .ref s0, .ref v0, .ref b0, .long sa, .long sb])), (w0, .inr (9, [.ref w1, .ref w2, .ref w3, .ref w4, .ref w5, .int (nI wn)])), (w4, .inl (cJ, 24, .inr (.inl lo1_1))), (w5, .inl (cJ, 24, .inr (.inl dr1_2))), (o0, .inl (cJ, 1, .inr (.inl (vp_updL of 0 1))))]) rfl ?_
    refine g_goto C dL_load_20 31 (by decide) ?_
    refine g_iconst (v := nI 0) C dL_load_31 32 rfl (by decide) ?_
    exact g_iret C hQ (Nat.le_of_ble_eq_true rfl) (Nat.le_of_ble_eq_true rfl) dL_load_32 (lo1_1, dr1_2, vp_updL of 0 1) (Or.inl ⟨rfl, r8, hr8, by (try dsimp only); rw [updL_at, if_neg c11]⟩) (by first | (dsimp only; done) | rfl)
