set_option maxHeartbeats 4000000 in
set_option maxRecDepth 100000 in
theorem c_L_colour (l : Launch) (D : va_G) (cI cJ cB cZ : ClassId) (sz : Nat) (h0 : Nat) (t0 : Nat) (w0 : Nat) (r0 : Nat) (m0 : Nat) (s0 : Nat) (v0 : Nat) (b0 : Nat) (sa : Int64) (sb : Int64) (w1 : Nat) (w2 : Nat) (w3 : Nat) (w4 : Nat) (w5 : Nat) (wn : Nat) (col : Nat → Nat) (x : Int32) (o0 : Nat) (of : Nat → Int64) (hw : wn ≤ 24) : Met l yL_colour wsL_colour ({ frames := 8, cells := 1, slots := 6, locals := 124 }) (va_Pc [.ref h0, .int x, .ref o0] (pW D (TY cI cJ cB cZ) [(h0, .inr (10, [.ref t0, .ref w0, .ref r0, .ref m0, .ref s0, .ref v0, .ref b0, .long sa, .long sb])), (w0, .inr (9, [.ref w1, .ref w2, .ref w3, .ref w4, .ref w5, .int (nI wn)])), (w3, .inl (cI, 24, .inl (fun jj => nI (col jj)))), (o0, .inl (cJ, 1, .inr (.inl of)))] (pK l [] [(h0, .inr (10, [.ref t0, .ref w0, .ref r0, .ref m0, .ref s0, .ref v0, .ref b0, .long sa, .long sb])), (w0, .inr (9, [.ref w1, .ref w2, .ref w3, .ref w4, .ref w5, .int (nI wn)])), (w3, .inl (cI, 24, .inl (fun jj => nI (col jj)))), (o0, .inl (cJ, 1, .inr (.inl of)))] sz) sz)) (va_Qi (fun (rv : Int32) (u : (Nat → Int64)) => (rv = nI 0 ∧ ∃ ra : Int32, (inR x wn ∧ ra = nI (col (cN x))) ∧ u 0 = ra.toInt64) ∨ (rv = nI 1 ∧ (¬ inR x wn))) (qW D (TY cI cJ cB cZ) (va_A [(h0, .inr (10, [.ref t0, .ref w0, .ref r0, .ref m0, .ref s0, .ref v0, .ref b0, .long sa, .long sb])), (w0, .inr (9, [.ref w1, .ref w2, .ref w3, .ref w4, .ref w5, .int (nI wn)])), (w3, .inl (cI, 24, .inl (fun jj => nI (col jj)))), (o0, .inl (cJ, 1, .inr (.inl of)))] sz) (fun u => [(h0, .inr (10, [.ref t0, .ref w0, .ref r0, .ref m0, .ref s0, .ref v0, .ref b0, .long sa, .long sb])), (w0, .inr (9, [.ref w1, .ref w2, .ref w3, .ref w4, .ref w5, .int (nI wn)])), (w3, .inl (cI, 24, .inl (fun jj => nI (col jj)))), (o0, .inl (cJ, 1, .inr (.inl u)))])) (va_A [(h0, .inr (10, [.ref t0, .ref w0, .ref r0, .ref m0, .ref s0, .ref v0, .ref b0, .long sa, .long sb])), (w0, .inr (9, [.ref w1, .ref w2, .ref w3, .ref w4, .ref w5, .int (nI wn)])), (w3, .inl (cI, 24, .inl (fun jj => nI (col jj)))), (o0, .inl (cJ, 1, .inr (.inl of)))] sz)) 1 6 (va_A [(h0, .inr (10, [.ref t0, .ref w0, .ref r0, .ref m0, .ref s0, .ref v0, .ref b0, .long sa, .long sb])), (w0, .inr (9, [.ref w1, .ref w2, .ref w3, .ref w4, .ref w5, .int (nI wn)])), (w3, .inl (cI, 24, .inl (fun jj => nI (col jj)))), (o0, .inl (cJ, 1, .inr (.inl of)))] sz) := by
  refine gx_metW RL rfl (by decide) rfl (Nat.le_of_ble_eq_true rfl) ?_
  intro X hl hDx hAx C hQ htab hXP hsz
  subst hl; subst hDx
  unfold pK pTs pT pS at hXP
  rw [← hAx] at hQ hXP
  have hNc := hXP.2
  have hX0 : stt (gx_A X) (gx_s X) (gx_s X).heap := hXP.1.2
  replace hXP := hXP.1.1
  refine g_lv [0, 1, 2] (lv' := [(0, .ref h0), (1, .int x), (2, .ref o0)]) rfl ?_
  refine g_aload_n C dL_colour_0 1 rfl rfl ?_
  refine g_iconst (v := nI 0) C dL_colour_1 2 rfl (by decide) ?_
  refine g_aload_n C dL_colour_2 3 rfl rfl ?_
  refine g_iload_n C dL_colour_3 4 rfl rfl ?_
  refine g_callViC (ci := 10) (q0 := 0) (As := [.int x]) (rest := [.int (nI 0), .ref o0]) (wr := [(o0, .inl (cJ, 1, .inr (.inl of)))]) (ws' := fun (_ : Unit) => [(h0, .inr (10, [.ref t0, .ref w0, .ref r0, .ref m0, .ref s0, .ref v0, .ref b0, .long sa, .long sb])), (w0, .inr (9, [.ref w1, .ref w2, .ref w3, .ref w4, .ref w5, .int (nI wn)])), (w3, .inl (cI, 24, .inl (fun jj => nI (col jj)))), (o0, .inl (cJ, 1, .inr (.inl of)))]) C (fun sz => c_X6_colour _ _ cI cJ cB cZ sz h0 t0 w0 r0 m0 s0 v0 b0 sa sb w1 w2 w3 w4 w5 wn col x hw) (gx_thr hXP (by decide +kernel)) 1 gL_colour_X6_colour rfl rfl rfl (by decide +kernel) ⟨Nat.le_of_ble_eq_true rfl, Nat.le_of_ble_eq_true rfl⟩ rfl rfl [0, 1, 2] [3] [1, 2, 3, 0] rfl (by decide) rfl (by decide) (by decide) (fun _ => rfl) (by decide) (WX := [(h0, .inr (10, [.ref t0, .ref w0, .ref r0, .ref m0, .ref s0, .ref v0, .ref b0, .long sa, .long sb])), (w0, .inr (9, [.ref w1, .ref w2, .ref w3, .ref w4, .ref w5, .int (nI wn)])), (w3, .inl (cI, 24, .inl (fun jj => nI (col jj)))), (o0, .inl (cJ, 1, .inr (.inl of)))]) rfl rfl rfl (Nat.le_of_ble_eq_true rfl) dL_colour_4 ⟨Nat.le_of_ble_eq_true rfl, Nat.le_of_ble_eq_true rfl⟩ 7 rfl (fun E qx hE => ?_) (fun r _ hr => ?_)
  · obtain ⟨rfl, hE⟩ := hE
    refine ⟨[], ⟨0, 9, 12, 19⟩, [], htab, fun z hz => absurd hz List.not_mem_nil, by decide, by decide, xIO, by decide +kernel, hXP.2.2.2.2.2.2.2 _ (List.mem_of_getElem? (i := 3) rfl), ?_⟩
    show gx X _ _ _ 12 _ _
    refine g_astore_n C dL_colour_12 13 rfl (by decide) [1, 2, 3, 0] (lv' := [(0, .ref h0), (1, .int x), (2, .ref o0), (3, .ref qx)]) rfl ?_
    refine g_iconst (v := nI 1) C dL_colour_13 14 rfl (by decide) ?_
    exact g_iret C hQ (Nat.le_of_ble_eq_true rfl) (Nat.le_of_ble_eq_true rfl) dL_colour_14 (of) (Or.inr ⟨rfl, hE⟩) (by first | (dsimp only; done) | rfl)
  obtain ⟨r4, rfl⟩ : ∃ z, z = r := ⟨_, rfl⟩
  have hr4 := hr
  refine g_i2l C dL_colour_7 8 rfl rfl ?_
  refine g_last C 3 1 rfl rfl 0 rfl (by omega) (by decide) dL_colour_8 9 rfl (ws' := [(h0, .inr (10, [.ref t0, .ref w0, .ref r0, .ref m0, .ref s0, .ref v0, .ref b0, .long sa, .long sb])), (w0, .inr (9, [.ref w1, .ref w2, .ref w3, .ref w4, .ref w5, .int (nI wn)])), (w3, .inl (cI, 24, .inl (fun jj => nI (col jj)))), (o0, .inl (cJ, 1, .inr (.inl (vp_updL of 0 r4.toInt64))))]) rfl ?_
  refine g_goto C dL_colour_9 15 (by decide) ?_
  refine g_iconst (v := nI 0) C dL_colour_15 16 rfl (by decide) ?_
  exact g_iret C hQ (Nat.le_of_ble_eq_true rfl) (Nat.le_of_ble_eq_true rfl) dL_colour_16 (vp_updL of 0 r4.toInt64) (Or.inl ⟨rfl, r4, hr4, by (try dsimp only); exact updL_at _ _ _⟩) (by first | (dsimp only; done) | rfl)
