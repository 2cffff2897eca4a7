set_option maxHeartbeats 4000000 in
set_option maxRecDepth 100000 in
theorem c_L_table (l : Launch) (D : va_G) (cI cJ cB cZ : ClassId) (sz : Nat) (h0 : Nat) (t0 : Nat) (w0 : Nat) (r0 : Nat) (m0 : Nat) (s0 : Nat) (v0 : Nat) (b0 : Nat) (sa : Int64) (sb : Int64) (r1 : Nat) (r2 : Nat) (r3 : Nat) (ar : Nat → Int64) (ma : Nat → Int64) (mo : Nat → Int64) (x : Int32) (y : Int64) (z : Int64) (q : Int64) (o0 : Nat) (of : Nat → Int64)  : Met l yL_table wsL_table ({ frames := 8, cells := 4, slots := 24, locals := 134 }) (va_Pc [.ref h0, .int x, .long y, .long z, .long q, .ref o0] (pW D (TY cI cJ cB cZ) [(h0, .inr (10, [.ref t0, .ref w0, .ref r0, .ref m0, .ref s0, .ref v0, .ref b0, .long sa, .long sb])), (r0, .inr (6, [.ref r1, .ref r2, .ref r3])), (r1, .inl (cJ, 10, .inr (.inl ar))), (r2, .inl (cJ, 10, .inr (.inl ma))), (r3, .inl (cJ, 10, .inr (.inl mo))), (o0, .inl (cJ, 1, .inr (.inl of)))] (pK l [] [(h0, .inr (10, [.ref t0, .ref w0, .ref r0, .ref m0, .ref s0, .ref v0, .ref b0, .long sa, .long sb])), (r0, .inr (6, [.ref r1, .ref r2, .ref r3])), (r1, .inl (cJ, 10, .inr (.inl ar))), (r2, .inl (cJ, 10, .inr (.inl ma))), (r3, .inl (cJ, 10, .inr (.inl mo))), (o0, .inl (cJ, 1, .inr (.inl of)))] sz) sz)) (va_Qi (fun (rv : Int32) (u : (Nat → Int64) × (Nat → Int64) × (Nat → Int64) × (Nat → Int64)) => (rv = nI 0 ∧ ∃ ra : Int32, (inR x 10 ∧ (wiN y 1 1000000 ∧ wiN z 1 1000000 ∧ wiN q 1 1000000) ∧ ra = bI (!(decide (ar (cN x) = y) && decide (ma (cN x) = z) && decide (mo (cN x) = q))) ∧ u.1 = vp_updL ar (cN x) y ∧ u.2.1 = vp_updL ma (cN x) z ∧ u.2.2.1 = vp_updL mo (cN x) q) ∧ u.2.2.2 0 = (if ra = 0 then 0 else 1)) ∨ (rv = nI 1 ∧ (¬ inR x 10) ∧ u.1 = ar ∧ u.2.1 = ma ∧ u.2.2.1 = mo) ∨ (rv = nI 2 ∧ (inR x 10 ∧ ¬ (wiN y 1 1000000 ∧ wiN z 1 1000000 ∧ wiN q 1 1000000)) ∧ u.1 = ar ∧ u.2.1 = ma ∧ u.2.2.1 = mo)) (qW D (TY cI cJ cB cZ) (va_A [(h0, .inr (10, [.ref t0, .ref w0, .ref r0, .ref m0, .ref s0, .ref v0, .ref b0, .long sa, .long sb])), (r0, .inr (6, [.ref r1, .ref r2, .ref r3])), (r1, .inl (cJ, 10, .inr (.inl ar))), (r2, .inl (cJ, 10, .inr (.inl ma))), (r3, .inl (cJ, 10, .inr (.inl mo))), (o0, .inl (cJ, 1, .inr (.inl of)))] sz) (fun u => [(h0, .inr (10, [.ref t0, .ref w0, .ref r0, .ref m0, .ref s0, .ref v0, .ref b0, .long sa, .long sb])), (r0, .inr (6, [.ref r1, .ref r2, .ref r3])), (r1, .inl (cJ, 10, .inr (.inl u.1))), (r2, .inl (cJ, 10, .inr (.inl u.2.1))), (r3, .inl (cJ, 10, .inr (.inl u.2.2.1))), (o0, .inl (cJ, 1, .inr (.inl u.2.2.2)))])) (va_A [(h0, .inr (10, [.ref t0, .ref w0, .ref r0, .ref m0, .ref s0, .ref v0, .ref b0, .long sa, .long sb])), (r0, .inr (6, [.ref r1, .ref r2, .ref r3])), (r1, .inl (cJ, 10, .inr (.inl ar))), (r2, .inl (cJ, 10, .inr (.inl ma))), (r3, .inl (cJ, 10, .inr (.inl mo))), (o0, .inl (cJ, 1, .inr (.inl of)))] sz)) 4 24 (va_A [(h0, .inr (10, [.ref t0, .ref w0, .ref r0, .ref m0, .ref s0, .ref v0, .ref b0, .long sa, .long sb])), (r0, .inr (6, [.ref r1, .ref r2, .ref r3])), (r1, .inl (cJ, 10, .inr (.inl ar))), (r2, .inl (cJ, 10, .inr (.inl ma))), (r3, .inl (cJ, 10, .inr (.inl mo))), (o0, .inl (cJ, 1, .inr (.inl of)))] sz) := by
  refine gx_metW RL rfl (by decide) rfl (Nat.le_of_ble_eq_true rfl) ?_
  intro X hl hDx hAx C hQ htab hXP hsz
  subst hl; subst hDx
  unfold pK pTs pT pS at hXP
  rw [← hAx] at hQ hXP
  have hNc := hXP.2
  have hX0 : stt (gx_A X) (gx_s X) (gx_s X).heap := hXP.1.2
  replace hXP := hXP.1.1
  refine g_lv [0, 1, 2, 3, 4, 5] (lv' := [(0, .ref h0), (1, .int x), (2, .long y), (4, .long z), (6, .long q), (8, .ref o0)]) rfl ?_
  refine g_aload C dL_table_0 2 rfl rfl ?_
  refine g_iconst (v := nI 0) C dL_table_2 3 rfl (by decide) ?_
  refine g_aload_n C dL_table_3 4 rfl rfl ?_
  refine g_iload_n C dL_table_4 5 rfl rfl ?_
  refine g_lload_n C dL_table_5 6 rfl rfl ?_
  refine g_lload C dL_table_6 8 rfl rfl ?_
  refine g_lload C dL_table_8 10 rfl rfl ?_
  refine g_callViC (ci := 10) (q0 := 0) (As := [.int x, .long y, .long z, .long q]) (rest := [.int (nI 0), .ref o0]) (wr := [(o0, .inl (cJ, 1, .inr (.inl of)))]) (ws' := fun (u : (Nat → Int64) × (Nat → Int64) × (Nat → Int64)) => [(h0, .inr (10, [.ref t0, .ref w0, .ref r0, .ref m0, .ref s0, .ref v0, .ref b0, .long sa, .long sb])), (r0, .inr (6, [.ref r1, .ref r2, .ref r3])), (r1, .inl (cJ, 10, .inr (.inl u.1))), (r2, .inl (cJ, 10, .inr (.inl u.2.1))), (r3, .inl (cJ, 10, .inr (.inl u.2.2))), (o0, .inl (cJ, 1, .inr (.inl of)))]) C (fun sz => c_X6_table _ _ cI cJ cB cZ sz h0 t0 w0 r0 m0 s0 v0 b0 sa sb r1 r2 r3 ar ma mo x y z q ) (gx_thr hXP (by decide +kernel)) 4 gL_table_X6_table rfl rfl rfl (by decide +kernel) ⟨Nat.le_of_ble_eq_true rfl, Nat.le_of_ble_eq_true rfl⟩ rfl rfl [0, 1, 2, 3, 4] [5] [1, 2, 3, 4, 5, 0] rfl (by decide) rfl (by decide) (by decide) (fun _ => rfl) (by decide) (WX := [(h0, .inr (10, [.ref t0, .ref w0, .ref r0, .ref m0, .ref s0, .ref v0, .ref b0, .long sa, .long sb])), (r0, .inr (6, [.ref r1, .ref r2, .ref r3])), (r1, .inl (cJ, 10, .inr (.inl ar))), (r2, .inl (cJ, 10, .inr (.inl ma))), (r3, .inl (cJ, 10, .inr (.inl mo))), (o0, .inl (cJ, 1, .inr (.inl of)))]) rfl rfl rfl (Nat.le_of_ble_eq_true rfl) dL_table_10 ⟨Nat.le_of_ble_eq_true rfl, Nat.le_of_ble_eq_true rfl⟩ 13 rfl (fun E qx hE => ?_) (fun r u hr10 => ?_)
  · rcases hE with ⟨rfl, hE⟩ | ⟨rfl, hE⟩
    · refine ⟨[], ⟨0, 22, 25, 19⟩, [⟨0, 22, 29, 13⟩], htab, fun z hz => absurd hz List.not_mem_nil, by decide, by decide, xIO, by decide +kernel, hXP.2.2.2.2.2.2.2 _ (List.mem_of_getElem? (i := 3) rfl), ?_⟩
      show gx X _ _ _ 25 _ _
      refine g_astore C dL_table_25 27 rfl (by decide) [1, 2, 3, 4, 5, 6, 0] (lv' := [(0, .ref h0), (1, .int x), (2, .long y), (4, .long z), (6, .long q), (8, .ref o0), (9, .ref qx)]) rfl ?_
      refine g_iconst (v := nI 1) C dL_table_27 28 rfl (by decide) ?_
      exact g_iret C hQ (Nat.le_of_ble_eq_true rfl) (Nat.le_of_ble_eq_true rfl) dL_table_28 (ar, ma, mo, of) (Or.inr (Or.inl ⟨rfl, hE, rfl, rfl, rfl⟩)) (by first | (dsimp only; done) | rfl)
    · refine ⟨[⟨0, 22, 25, 19⟩], ⟨0, 22, 29, 13⟩, [], htab, fun z hz => by rw [List.mem_singleton.mp hz]; exact ⟨by decide, xIO, by decide +kernel, hNc⟩, by decide, by decide, xIA, by decide +kernel, hXP.2.2.2.2.2.2.2 _ (List.mem_of_getElem? (i := 4) rfl), ?_⟩
      show gx X _ _ _ 29 _ _
      refine g_astore C dL_table_29 31 rfl (by decide) [1, 2, 3, 4, 5, 6, 0] (lv' := [(0, .ref h0), (1, .int x), (2, .long y), (4, .long z), (6, .long q), (8, .ref o0), (9, .ref qx)]) rfl ?_
      refine g_iconst (v := nI 2) C dL_table_31 32 rfl (by decide) ?_
      exact g_iret C hQ (Nat.le_of_ble_eq_true rfl) (Nat.le_of_ble_eq_true rfl) dL_table_32 (ar, ma, mo, of) (Or.inr (Or.inr ⟨rfl, hE, rfl, rfl, rfl⟩)) (by first | (dsimp only; done) | rfl)
  obtain ⟨ar1_1, ma1_2, mo1_3⟩ := u
  try dsimp only at hr10
  obtain ⟨r10, rfl⟩ : ∃ z, z = r := ⟨_, rfl⟩
  refine g_if_eq C dL_table_13 20 16 (by decide) rfl (fun c13 => ?_) (fun c13 => ?_)
  · refine g_lconst (v := 0) C dL_table_20 21 rfl (by decide) ?_
    refine g_last C 5 1 rfl rfl 0 rfl (by omega) (by decide) dL_table_21 22 rfl (ws' := [(h0, .inr (10, [.ref t0, .ref w0, .ref r0, .ref m0, .ref s0, .ref v0, .ref b0, .long sa, .long sb])), (r0, .inr (6, [.ref r1, .ref r2, .ref r3])), (r1, .inl (cJ, 10, .inr (.inl ar1_1))), (r2, .inl (cJ, 10, .inr (.inl ma1_2))), (r3, .inl (cJ, 10, .inr (.inl mo1_3))), (o0, .inl (cJ, 1, .inr (.inl (vp_updL of 0 0))))]) rfl ?_
    refine g_goto C dL_table_22 33 (by decide) ?_
    refine g_iconst (v := nI 0) C dL_table_33 34 rfl (by decide) ?_
    exact g_iret C hQ (Nat.le_of_ble_eq_true rfl) (Nat.le_of_ble_eq_true rfl) dL_table_34 (ar1_1, ma1_2, mo1_3, vp_updL of 0 0) (Or.inl ⟨rfl, r10, hr10, by (try dsimp only); rw [updL_at, if_pos c13]⟩) (by first | (dsimp only; done) | rfl)
  · refine g_lconst (v := 1) C dL_table_16 17 rfl (by decide) ?_
    refine g_goto C dL_table_17 21 (by decide) ?_
    refine g_last C 5 1 rfl rfl 0 rfl (by omega) (by decide) dL_table_21 22 rfl (ws' := [(h0, .inr (10, [.ref t0, .ref w0, .ref r0, .ref m0, .ref s0, .ref v0, .ref b0, .long sa, .long sb])), (r0, .inr (6, [.ref r1, .ref r2, .ref r3])), (r1, .inl (cJ, 10, .inr (.inl ar1_1))), (r2, .inl (cJ, 10, .inr (.inl ma1_2))), (r3, .inl (cJ, 10, .inr (.inl mo1_3))), (o0, .inl (cJ, 1, .inr (.inl (vp_updL of 0 1))))]) rfl ?_
    refine g_goto C dL_table_22 33 (by decide) ?_
    refine g_iconst (v := nI 0) C dL_table_33 34 rfl (by decide) ?_
    exact g_iret C hQ (Nat.le_of_ble_eq_true rfl) (Nat.le_of_ble_eq_true rfl) dL_table_34 (ar1_1, ma1_2, mo1_3, vp_updL of 0 1) (Or.inl ⟨rfl, r10, hr10, by (try dsimp only); rw [updL_at, if_neg c13]⟩) (by first | (dsimp only; done) | rfl)
