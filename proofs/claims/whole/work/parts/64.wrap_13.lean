set_option maxHeartbeats 4000000 in
set_option maxRecDepth 100000 in
theorem c_L_has (l : Launch) (D : va_G) (cI cJ cB cZ : ClassId) (sz : Nat) (h0 : Nat) (t0 : Nat) (w0 : Nat) (r0 : Nat) (m0 : Nat) (s0 : Nat) (v0 : Nat) (b0 : Nat) (sa : Int64) (sb : Int64) (w1 : Nat) (w2 : Nat) (w3 : Nat) (w4 : Nat) (w5 : Nat) (wn : Nat) (v1 : Nat) (v2 : Nat) (vc : Nat) (tw : Nat → Int32) (ow : Nat → Int32) (x : Int32) (y : Int32) (on : Bool) (o0 : Nat) (of : Nat → Int64) (hw : wn ≤ 24) (h6 : vc ≤ 6) : Met l yL_has wsL_has ({ frames := 8, cells := 2, slots := 12, locals := 126 }) (va_Pc [.ref h0, .int x, .int y, .int (bI on), .ref o0] (pW D (TY cI cJ cB cZ) [(h0, .inr (10, [.ref t0, .ref w0, .ref r0, .ref m0, .ref s0, .ref v0, .ref b0, .long sa, .long sb])), (w0, .inr (9, [.ref w1, .ref w2, .ref w3, .ref w4, .ref w5, .int (nI wn)])), (v0, .inr (8, [.ref v1, .ref v2, .int (nI vc)])), (v1, .inl (cI, 6, .inl tw)), (v2, .inl (cI, 6, .inl ow)), (o0, .inl (cJ, 1, .inr (.inl of)))] (pK l [(RX4, 26, yX6_hasBit, "HarnessRows")] [(h0, .inr (10, [.ref t0, .ref w0, .ref r0, .ref m0, .ref s0, .ref v0, .ref b0, .long sa, .long sb])), (w0, .inr (9, [.ref w1, .ref w2, .ref w3, .ref w4, .ref w5, .int (nI wn)])), (v0, .inr (8, [.ref v1, .ref v2, .int (nI vc)])), (v1, .inl (cI, 6, .inl tw)), (v2, .inl (cI, 6, .inl ow)), (o0, .inl (cJ, 1, .inr (.inl of)))] sz) sz)) (va_Qi (fun (rv : Int32) (u : (Nat → Int32) × (Nat → Int32) × (Nat → Int64)) => (rv = nI 0 ∧ ∃ ra : Int32, (inR x vc ∧ inR y wn ∧ ra = bI (!(decide (von tw ow (cN y) (cN x + 1) = on))) ∧ u.1 = upd tw (cN x) (tw (cN x) ||| (nI 1 <<< (nI (cN y) &&& 31))) ∧ u.2.1 = owput ow (cN x) (cN y) on) ∧ u.2.2 0 = (if ra = 0 then 0 else 1)) ∨ (rv = nI 1 ∧ (¬ (inR x vc ∧ inR y wn)) ∧ u.1 = tw ∧ u.2.1 = ow)) (qW D (TY cI cJ cB cZ) (va_A [(h0, .inr (10, [.ref t0, .ref w0, .ref r0, .ref m0, .ref s0, .ref v0, .ref b0, .long sa, .long sb])), (w0, .inr (9, [.ref w1, .ref w2, .ref w3, .ref w4, .ref w5, .int (nI wn)])), (v0, .inr (8, [.ref v1, .ref v2, .int (nI vc)])), (v1, .inl (cI, 6, .inl tw)), (v2, .inl (cI, 6, .inl ow)), (o0, .inl (cJ, 1, .inr (.inl of)))] sz) (fun u => [(h0, .inr (10, [.ref t0, .ref w0, .ref r0, .ref m0, .ref s0, .ref v0, .ref b0, .long sa, .long sb])), (w0, .inr (9, [.ref w1, .ref w2, .ref w3, .ref w4, .ref w5, .int (nI wn)])), (v0, .inr (8, [.ref v1, .ref v2, .int (nI vc)])), (v1, .inl (cI, 6, .inl u.1)), (v2, .inl (cI, 6, .inl u.2.1)), (o0, .inl (cJ, 1, .inr (.inl u.2.2)))])) (va_A [(h0, .inr (10, [.ref t0, .ref w0, .ref r0, .ref m0, .ref s0, .ref v0, .ref b0, .long sa, .long sb])), (w0, .inr (9, [.ref w1, .ref w2, .ref w3, .ref w4, .ref w5, .int (nI wn)])), (v0, .inr (8, [.ref v1, .ref v2, .int (nI vc)])), (v1, .inl (cI, 6, .inl tw)), (v2, .inl (cI, 6, .inl ow)), (o0, .inl (cJ, 1, .inr (.inl of)))] sz)) 2 12 (va_A [(h0, .inr (10, [.ref t0, .ref w0, .ref r0, .ref m0, .ref s0, .ref v0, .ref b0, .long sa, .long sb])), (w0, .inr (9, [.ref w1, .ref w2, .ref w3, .ref w4, .ref w5, .int (nI wn)])), (v0, .inr (8, [.ref v1, .ref v2, .int (nI vc)])), (v1, .inl (cI, 6, .inl tw)), (v2, .inl (cI, 6, .inl ow)), (o0, .inl (cJ, 1, .inr (.inl of)))] sz) := by
  refine gx_metW RL rfl (by decide) rfl (Nat.le_of_ble_eq_true rfl) ?_
  intro X hl hDx hAx C hQ htab hXP hsz
  subst hl; subst hDx
  unfold pK pTs pT pS at hXP
  rw [← hAx] at hQ hXP
  have hNc := hXP.2
  have hX0 : stt (gx_A X) (gx_s X) (gx_s X).heap := hXP.1.2
  replace hXP := hXP.1.1
  refine g_lv [0, 1, 2, 3, 4] (lv' := [(0, .ref h0), (1, .int x), (2, .int y), (3, .int (bI on)), (4, .ref o0)]) rfl ?_
  refine g_aload C dL_has_0 2 rfl rfl ?_
  refine g_iconst (v := nI 0) C dL_has_2 3 rfl (by decide) ?_
  refine g_aload_n C dL_has_3 4 rfl rfl ?_
  refine g_iload_n C dL_has_4 5 rfl rfl ?_
  refine g_iload_n C dL_has_5 6 rfl rfl ?_
  refine g_iload_n C dL_has_6 7 rfl rfl ?_
  refine g_callViC (ci := 10) (q0 := 0) (As := [.int x, .int y, .int (bI on)]) (rest := [.int (nI 0), .ref o0]) (wr := [(o0, .inl (cJ, 1, .inr (.inl of)))]) (ws' := fun (u : (Nat → Int32) × (Nat → Int32)) => [(h0, .inr (10, [.ref t0, .ref w0, .ref r0, .ref m0, .ref s0, .ref v0, .ref b0, .long sa, .long sb])), (w0, .inr (9, [.ref w1, .ref w2, .ref w3, .ref w4, .ref w5, .int (nI wn)])), (v0, .inr (8, [.ref v1, .ref v2, .int (nI vc)])), (v1, .inl (cI, 6, .inl u.1)), (v2, .inl (cI, 6, .inl u.2)), (o0, .inl (cJ, 1, .inr (.inl of)))]) C (fun sz => c_X6_has _ _ cI cJ cB cZ sz h0 t0 w0 r0 m0 s0 v0 b0 sa sb w1 w2 w3 w4 w5 wn v1 v2 vc tw ow x y on hw h6) (gx_thr hXP (by decide +kernel)) 3 gL_has_X6_has rfl rfl rfl (by decide +kernel) ⟨Nat.le_of_ble_eq_true rfl, Nat.le_of_ble_eq_true rfl⟩ rfl rfl [0, 1, 2, 3, 4] [5] [1, 2, 3, 4, 5, 0] rfl (by decide) rfl (by decide) (by decide) (fun _ => rfl) (by decide) (WX := [(h0, .inr (10, [.ref t0, .ref w0, .ref r0, .ref m0, .ref s0, .ref v0, .ref b0, .long sa, .long sb])), (w0, .inr (9, [.ref w1, .ref w2, .ref w3, .ref w4, .ref w5, .int (nI wn)])), (v0, .inr (8, [.ref v1, .ref v2, .int (nI vc)])), (v1, .inl (cI, 6, .inl tw)), (v2, .inl (cI, 6, .inl ow)), (o0, .inl (cJ, 1, .inr (.inl of)))]) rfl rfl rfl (Nat.le_of_ble_eq_true rfl) dL_has_7 ⟨Nat.le_of_ble_eq_true rfl, Nat.le_of_ble_eq_true rfl⟩ 10 rfl (fun E qx hE => ?_) (fun r u hr7 => ?_)
  · obtain ⟨rfl, hE⟩ := hE
    refine ⟨[], ⟨0, 19, 22, 19⟩, [], htab, fun z hz => absurd hz List.not_mem_nil, by decide, by decide, xIO, by decide +kernel, hXP.2.2.2.2.2.2.2 _ (List.mem_of_getElem? (i := 3) rfl), ?_⟩
    show gx X _ _ _ 22 _ _
    refine g_astore C dL_has_22 24 rfl (by decide) [1, 2, 3, 4, 5, 0] (lv' := [(0, .ref h0), (1, .int x), (2, .int y), (3, .int (bI on)), (4, .ref o0), (5, .ref qx)]) rfl ?_
    refine g_iconst (v := nI 1) C dL_has_24 25 rfl (by decide) ?_
    exact g_iret C hQ (Nat.le_of_ble_eq_true rfl) (Nat.le_of_ble_eq_true rfl) dL_has_25 (tw, ow, of) (Or.inr ⟨rfl, hE, rfl, rfl⟩) (by first | (dsimp only; done) | rfl)
  obtain ⟨tw1_1, ow1_2⟩ := u
  try dsimp only at hr7
  obtain ⟨r7, rfl⟩ : ∃ z, z = r := ⟨_, rfl⟩
  refine g_if_eq C dL_has_10 17 13 (by decide) rfl (fun c10 => ?_) (fun c10 => ?_)
  · refine g_lconst (v := 0) C dL_has_17 18 rfl (by decide) ?_
    refine g_last C 5 1 rfl rfl 0 rfl (by omega) (by decide) dL_has_18 19 rfl (ws' := [(h0, .inr (10, [.ref t0, .ref w0, .ref r0, .ref m0, .ref s0, .ref v0, .ref b0, .long sa, .long sb])), (w0, .inr (9, [.ref w1, .ref w2, .ref w3, .ref w4, .ref w5, .int (nI wn)])), (v0, .inr (8, [.ref v1, .ref v2, .int (nI vc)])), (v1, .inl (cI, 6, .inl tw1_1)), (v2, .inl (cI, 6, .inl ow1_2)), (o0, .inl (cJ, 1, .inr (.inl (vp_updL of 0 0))))]) rfl ?_
    refine g_goto C dL_has_19 26 (by decide) ?_
    refine g_iconst (v := nI 0) C dL_has_26 27 rfl (by decide) ?_
    exact g_iret C hQ (Nat.le_of_ble_eq_true rfl) (Nat.le_of_ble_eq_true rfl) dL_has_27 (tw1_1, ow1_2, vp_updL of 0 0) (Or.inl ⟨rfl, r7, hr7, by (try dsimp only); rw [updL_at, if_pos c10]⟩) (by first | (dsimp only; done) | rfl)
  · refine g_lconst (v := 1) C dL_has_13 14 rfl (by decide) ?_
    refine g_goto C dL_has_14 18 (by decide) ?_
    refine g_last C 5 1 rfl rfl 0 rfl (by omega) (by decide) dL_has_18 19 rfl (ws' := [(h0, .inr (10, [.ref t0, .ref w0, .ref r0, .ref m0, .ref s0, .ref v0, .ref b0, .long sa, .long sb])), (w0, .inr (9, [.ref w1, .ref w2, .ref w3, .ref w4, .ref w5, .int (nI wn)])), (v0, .inr (8, [.ref v1, .ref v2, .int (nI vc)])), (v1, .inl (cI, 6, .inl tw1_1)), (v2, .inl (cI, 6, .inl ow1_2)), (o0, .inl (cJ, 1, .inr (.inl (vp_updL of 0 1))))]) rfl ?_
    refine g_goto C dL_has_19 26 (by decide) ?_
    refine g_iconst (v := nI 0) C dL_has_26 27 rfl (by decide) ?_
    exact g_iret C hQ (Nat.le_of_ble_eq_true rfl) (Nat.le_of_ble_eq_true rfl) dL_has_27 (tw1_1, ow1_2, vp_updL of 0 1) (Or.inl ⟨rfl, r7, hr7, by (try dsimp only); rw [updL_at, if_neg c10]⟩) (by first | (dsimp only; done) | rfl)
