set_option maxHeartbeats 4000000 in
set_option maxRecDepth 100000 in
theorem c_L_slack (l : Launch) (D : va_G) (cI cJ cB cZ : ClassId) (sz : Nat) (h0 : Nat) (t0 : Nat) (w0 : Nat) (r0 : Nat) (m0 : Nat) (s0 : Nat) (v0 : Nat) (b0 : Nat) (sa : Int64) (sb : Int64) (x : Int64) (y : Int64) (o0 : Nat) (of : Nat → Int64)  : Met l yL_slack wsL_slack ({ frames := 8, cells := 2, slots := 12, locals := 132 }) (va_Pc [.ref h0, .long x, .long y, .ref o0] (pW D (TY cI cJ cB cZ) [(h0, .inr (10, [.ref t0, .ref w0, .ref r0, .ref m0, .ref s0, .ref v0, .ref b0, .long sa, .long sb])), (o0, .inl (cJ, 1, .inr (.inl of)))] (pK l [] [(h0, .inr (10, [.ref t0, .ref w0, .ref r0, .ref m0, .ref s0, .ref v0, .ref b0, .long sa, .long sb])), (o0, .inl (cJ, 1, .inr (.inl of)))] sz) sz)) (va_Qi (fun (rv : Int32) (u : Int64 × Int64 × (Nat → Int64)) => (rv = nI 0 ∧ ∃ ra : Int32, (wiN y 1 1000 ∧ wiN x 0 y ∧ ra = bI (!(decide (x = sa) && decide (y = sb))) ∧ u.1 = x ∧ u.2.1 = y) ∧ u.2.2 0 = (if ra = 0 then 0 else 1)) ∨ (rv = nI 1 ∧ (¬ (wiN y 1 1000 ∧ wiN x 0 y)) ∧ u.1 = sa ∧ u.2.1 = sb)) (qW D (TY cI cJ cB cZ) (va_A [(h0, .inr (10, [.ref t0, .ref w0, .ref r0, .ref m0, .ref s0, .ref v0, .ref b0, .long sa, .long sb])), (o0, .inl (cJ, 1, .inr (.inl of)))] sz) (fun u => [(h0, .inr (10, [.ref t0, .ref w0, .ref r0, .ref m0, .ref s0, .ref v0, .ref b0, .long u.1, .long u.2.1])), (o0, .inl (cJ, 1, .inr (.inl u.2.2)))])) (va_A [(h0, .inr (10, [.ref t0, .ref w0, .ref r0, .ref m0, .ref s0, .ref v0, .ref b0, .long sa, .long sb])), (o0, .inl (cJ, 1, .inr (.inl of)))] sz)) 2 12 (va_A [(h0, .inr (10, [.ref t0, .ref w0, .ref r0, .ref m0, .ref s0, .ref v0, .ref b0, .long sa, .long sb])), (o0, .inl (cJ, 1, .inr (.inl of)))] sz) := by
  refine gx_metW RL rfl (by decide) rfl (Nat.le_of_ble_eq_true rfl) ?_
  intro X hl hDx hAx C hQ htab hXP hsz
  subst hl; subst hDx
  unfold pK pTs pT pS at hXP
  rw [← hAx] at hQ hXP
  have hNc := hXP.2
  have hX0 : stt (gx_A X) (gx_s X) (gx_s X).heap := hXP.1.2
  replace hXP := hXP.1.1
  refine g_lv [0, 1, 2, 3] (lv' := [(0, .ref h0), (1, .long x), (3, .long y), (5, .ref o0)]) rfl ?_
  refine g_aload C dL_slack_0 2 rfl rfl ?_
  refine g_iconst (v := nI 0) C dL_slack_2 3 rfl (by decide) ?_
  refine g_aload_n C dL_slack_3 4 rfl rfl ?_
  refine g_lload_n C dL_slack_4 5 rfl rfl ?_
  refine g_lload_n C dL_slack_5 6 rfl rfl ?_
  refine g_callViC (ci := 10) (q0 := 0) (As := [.long x, .long y]) (rest := [.int (nI 0), .ref o0]) (wr := [(o0, .inl (cJ, 1, .inr (.inl of)))]) (ws' := fun (u : Int64 × Int64) => [(h0, .inr (10, [.ref t0, .ref w0, .ref r0, .ref m0, .ref s0, .ref v0, .ref b0, .long u.1, .long u.2])), (o0, .inl (cJ, 1, .inr (.inl of)))]) C (fun sz => c_X6_slack _ _ cI cJ cB cZ sz h0 t0 w0 r0 m0 s0 v0 b0 sa sb x y ) (gx_thr hXP (by decide +kernel)) 2 gL_slack_X6_slack rfl rfl rfl (by decide +kernel) ⟨Nat.le_of_ble_eq_true rfl, Nat.le_of_ble_eq_true rfl⟩ rfl rfl [0] [1] [1, 0] rfl (by decide) rfl (by decide) (by decide) (fun _ => rfl) (by decide) (WX := [(h0, .inr (10, [.ref t0, .ref w0, .ref r0, .ref m0, .ref s0, .ref v0, .ref b0, .long sa, .long sb])), (o0, .inl (cJ, 1, .inr (.inl of)))]) rfl rfl rfl (Nat.le_of_ble_eq_true rfl) dL_slack_6 ⟨Nat.le_of_ble_eq_true rfl, Nat.le_of_ble_eq_true rfl⟩ 9 rfl (fun E qx hE => ?_) (fun r u hr6 => ?_)
  · obtain ⟨rfl, hE⟩ := hE
    refine ⟨[], ⟨0, 18, 21, 13⟩, [], htab, fun z hz => absurd hz List.not_mem_nil, by decide, by decide, xIA, by decide +kernel, hXP.2.2.2.2.2.2.2 _ (List.mem_of_getElem? (i := 4) rfl), ?_⟩
    show gx X _ _ _ 21 _ _
    refine g_astore C dL_slack_21 23 rfl (by decide) [1, 2, 3, 4, 0] (lv' := [(0, .ref h0), (1, .long x), (3, .long y), (5, .ref o0), (6, .ref qx)]) rfl ?_
    refine g_iconst (v := nI 1) C dL_slack_23 24 rfl (by decide) ?_
    exact g_iret C hQ (Nat.le_of_ble_eq_true rfl) (Nat.le_of_ble_eq_true rfl) dL_slack_24 (sa, sb, of) (Or.inr ⟨rfl, hE, rfl, rfl⟩) (by first | (dsimp only; done) | rfl)
  obtain ⟨sa1_1, sb1_2⟩ := u
  try dsimp only at hr6
  obtain ⟨r6, rfl⟩ : ∃ z, z = r := ⟨_, rfl⟩
  refine g_if_eq C dL_slack_9 16 12 (by decide) rfl (fun c9 => ?_) (fun c9 => ?_)
  · refine g_lconst (v := 0) C dL_slack_16 17 rfl (by decide) ?_
    refine g_last C 1 1 rfl rfl 0 rfl (by omega) (by decide) dL_slack_17 18 rfl (ws' := [(h0, .inr (10, [.ref t0, .ref w0, .ref r0, .ref m0, .ref s0, .ref v0, .ref b0, .long sa1_1, .long sb1_2])), (o0, .inl (cJ, 1, .inr (.inl (vp_updL of 0 0))))]) rfl ?_
    refine g_goto C dL_slack_18 25 (by decide) ?_
    refine g_iconst (v := nI 0) C dL_slack_25 26 rfl (by decide) ?_
    exact g_iret C hQ (Nat.le_of_ble_eq_true rfl) (Nat.le_of_ble_eq_true rfl) dL_slack_26 (sa1_1, sb1_2, vp_updL of 0 0) (Or.inl ⟨rfl, r6, hr6, by (try dsimp only); rw [updL_at, if_pos c9]⟩) (by first | (dsimp only; done) | rfl)
  · refine g_lconst (v := 1) C dL_slack_12 13 rfl (by decide) ?_
    refine g_goto C dL_slack_13 17 (by decide) ?_
    refine g_last C 1 1 rfl rfl 0 rfl (by omega) (by decide) dL_slack_17 18 rfl (ws' := [(h0, .inr (10, [.ref t0, .ref w0, .ref r0, .ref m0, .ref s0, .ref v0, .ref b0, .long sa1_1, .long sb1_2])), (o0, .inl (cJ, 1, .inr (.inl (vp_updL of 0 1))))]) rfl ?_
    refine g_goto C dL_slack_18 25 (by decide) ?_
    refine g_iconst (v := nI 0) C dL_slack_25 26 rfl (by decide) ?_
    exact g_iret C hQ (Nat.le_of_ble_eq_true rfl) (Nat.le_of_ble_eq_true rfl) dL_slack_26 (sa1_1, sb1_2, vp_updL of 0 1) (Or.inl ⟨rfl, r6, hr6, by (try dsimp only); rw [updL_at, if_neg c9]⟩) (by first | (dsimp only; done) | rfl)
