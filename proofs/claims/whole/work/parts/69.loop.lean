theorem g_lawret {p : Program} {l : Launch} {e : Env} {s : State} {m : MethodId} {below : List Frame} {meth : Method} {c : Code} {D : va_G} {b : Nat} {own : String} {Ts : List Cond} {tys : List (ClassId × FieldType)} {ws : va_W} {pc : Nat} {lv : List (Nat × Value)} {cells slots : Nat} (C : gx_C (p, l, e, room_1, s, m, #[Value.ref b], below, meth, c, (fun q : Nat => s.heap.size ≤ q), D, 8, lw_Z below #[Value.ref b] s) code own Ts tys 8 room_1) (hr : meth.sig.returnType = ret) (hk : meth.locks = false) (h1 : cells ≤ 601024) (h2 : slots ≤ 7293034) (hdg : decode code pc = .ok (.ireturn, 1)) : gx (p, l, e, room_1, s, m, #[Value.ref b], below, meth, c, (fun q : Nat => s.heap.size ≤ q), D, 8, lw_Z below #[Value.ref b] s) cells slots ws pc lv [.int 1] :=
  fun H locs ls hP hD hS hl => va_forget (fun q hq => hS.2.2 q hq) (W.widen h1 h2 (lw_ret C.1 C.2.1 hr hk hdg))
theorem sub8 {L i : Nat} (hL : L ≤ 4096) (hi : i ≤ 8192) (h : ¬ nI L - nI 8 < nI i) : i + 8 ≤ L := by
  have h1 : (nI L - nI 8).toInt = (L : Int) - 8 := pk_sub_toInt (by omega) (by omega)
  have h2 : (nI i).toInt = (i : Int) := nI_toInt (by omega)
  have h3 : ¬ (nI L - nI 8).toInt < (nI i).toInt := fun q => h (Int32.lt_iff_toInt_lt.mpr q)
  rw [h1, h2] at h3
  omega
theorem and31 (x : Int32) : ∃ v : Nat, v < 32 ∧ x &&& nI 31 = nI v := by
  refine ⟨x.toBitVec.toNat % 2 ^ 5, Nat.mod_lt _ (by decide), ?_⟩
  refine b_ext (fun i hi => ?_)
  rw [b_and]
  have h31 : bt (nI 31) i = decide (i < 5) := (by decide +kernel : ∀ i, i < 32 → bt (nI 31) i = decide (i < 5)) i hi
  rw [h31]
  show (x.toBitVec.getLsbD i && decide (i < 5)) = (BitVec.ofNat 32 (x.toBitVec.toNat % 2 ^ 5)).getLsbD i
  rw [BitVec.getLsbD_ofNat, Nat.testBit_mod_two_pow, BitVec.getLsbD]
  simp [hi, Bool.and_comm]
set_option maxHeartbeats 8000000 in
set_option maxRecDepth 100000 in
theorem law_loop {p : Program} {l : Launch} {e : Env} {s : State} {m : MethodId} {below : List Frame} {meth : Method} {c : Code} {D : va_G} {b : Nat} {cI cJ cB cZ : ClassId} {L : Nat} {xs : Nat → Int32} (ad : Nat → Nat) (C : gx_C (p, l, e, room_1, s, m, #[Value.ref b], below, meth, c, (fun q : Nat => s.heap.size ≤ q), D, 8, lw_Z below #[Value.ref b] s) code RL wsL_law (TY cI cJ cB cZ) 8 room_1) (hr : meth.sig.returnType = ret) (hlk : meth.locks = false) (hX : va_X b L xs s s.heap) (hbl : b < s.heap.size) (hL : L ≤ 4096) (hXP : nst lwN s ∧ thr l (fun q : Nat => s.heap.size ≤ q) s s.heap) (hX0 : stt (fun q : Nat => s.heap.size ≤ q) s s.heap) (hNc : va_Nc xIA xIO s) : ∀ (fuel i : Nat), i ≤ L + 7 → L + 8 ≤ i + fuel → LHd (p, l, e, room_1, s, m, #[Value.ref b], below, meth, c, (fun q : Nat => s.heap.size ≤ q), D, 8, lw_Z below #[Value.ref b] s) cI cJ cB cZ b ad 23 i (100 + i) (2000 + 4 * i) := by
  have hbA : ¬ (fun q : Nat => s.heap.size ≤ q) b := Nat.not_le.mpr hbl
  intro fuel
  induction fuel with
  | zero => intro i h1 h2; exact absurd h2 (by omega)
  | succ fuel ih =>
    intro i h1 h2
    intro nd bd wn sc vc n cav fN oN ln eA eB col gr pA pB mk wy mL fa lo ar wa td rq mr pa tw ow sa sb th my np fw gp wp pk tr dr ma mo cu fi us of ti f ml wt wr fo rl hR
    refine g_iload C dL_law_23 25 rfl rfl ?_
    refine g_aload_n C dL_law_25 26 rfl rfl ?_
    refine g_slen C hX hbl hbA dL_law_26 27 rfl ?_
    refine g_bipush (v := nI 8) C dL_law_27 29 rfl (by decide) ?_
    refine g_isub C dL_law_29 30 rfl ?_
    refine g_icmp_gt C dL_law_30 1626 33 (by decide) rfl (fun c30 => ?_) (fun c30 => ?_)
    · refine g_iconst (v := 1) C dL_law_1626 1627 rfl (by decide) ?_
      exact g_lawret C hr hlk (by omega) (by omega) dL_law_1627
    have hi8 : i + 8 ≤ L := sub8 hL (by omega) c30
    have K : LHd (p, l, e, room_1, s, m, #[Value.ref b], below, meth, c, (fun q : Nat => s.heap.size ≤ q), D, 8, lw_Z below #[Value.ref b] s) cI cJ cB cZ b ad 1620 i (100 + (i + 8)) (2000 + 4 * (i + 8)) := by
      intro nd bd wn sc vc n cav fN oN ln eA eB col gr pA pB mk wy mL fa lo ar wa td rq mr pa tw ow sa sb th my np fw gp wp pk tr dr ma mo cu fi us of ti f ml wt wr fo rl hR
      by_cases h9 : i + 8 ≤ L + 7
      · refine g_iinc (v := nI (i + 8)) C dL_law_1620 1623 rfl rfl (nI_add i 8) (by decide) [1, 2, 3, 4, 0] (lv' := [(0, .ref b), (1, .ref (ad 0)), (2, .ref (ad 31)), (3, .ref (ad 54)), (4, .int (nI (i + 8)))]) rfl ?_
        refine g_goto C dL_law_1623 23 (by decide) ?_
        exact ih (i + 8) h9 (by omega) nd bd wn sc vc n cav fN oN ln eA eB col gr pA pB mk wy mL fa lo ar wa td rq mr pa tw ow sa sb th my np fw gp wp pk tr dr ma mo cu fi us of ti f ml wt wr fo rl hR
      · exact absurd hi8 (by omega)
    refine g_aload_n C dL_law_33 34 rfl rfl ?_
    refine g_iload C dL_law_34 36 rfl rfl ?_
    refine g_sld C hX hbl hbA hL i rfl (by omega) dL_law_36 37 rfl ?_
    refine g_bipush (v := nI 31) C dL_law_37 39 rfl (by decide) ?_
    refine g_iand C dL_law_39 40 rfl ?_
    obtain ⟨v, hv, ev⟩ := and31 (xs i)
    rw [ev]
    clear ev
    have hdef : (17 : Int) < (nI v).toInt → gx (p, l, e, room_1, s, m, #[Value.ref b], below, meth, c, (fun q : Nat => s.heap.size ≤ q), D, 8, lw_Z below #[Value.ref b] s) (100 + i) (2000 + 4 * i) [(ad 0, .inr (10, [.ref (ad 1), .ref (ad 7), .ref (ad 13), .ref (ad 17), .ref (ad 23), .ref (ad 26), .ref (ad 29), .long sa, .long sb])), (ad 1, .inr (7, [.ref (ad 2), .ref (ad 3), .ref (ad 4), .ref (ad 5), .ref (ad 6), .int (nI nd), .int (nI bd)])), (ad 2, .inl (cI, 16, .inl (fun jj => nI (cav jj)))), (ad 3, .inl (cI, 15, .inl (fun jj => nI (fN jj)))), (ad 4, .inl (cI, 15, .inl (fun jj => nI (oN jj)))), (ad 5, .inl (cI, 15, .inl (fun jj => nI (ln jj)))), (ad 6, .inl (cJ, 256, .inr (.inl wy))), (ad 7, .inr (9, [.ref (ad 8), .ref (ad 9), .ref (ad 10), .ref (ad 11), .ref (ad 12), .int (nI wn)])), (ad 8, .inl (cI, 24, .inl (fun jj => nI (eA jj)))), (ad 9, .inl (cI, 24, .inl (fun jj => nI (eB jj)))), (ad 10, .inl (cI, 24, .inl (fun jj => nI (col jj)))), (ad 11, .inl (cJ, 24, .inr (.inl lo))), (ad 12, .inl (cJ, 24, .inr (.inl dr))), (ad 13, .inr (6, [.ref (ad 14), .ref (ad 15), .ref (ad 16)])), (ad 14, .inl (cJ, 10, .inr (.inl ar))), (ad 15, .inl (cJ, 10, .inr (.inl ma))), (ad 16, .inl (cJ, 10, .inr (.inl mo))), (ad 17, .inr (4, [.ref (ad 18), .ref (ad 19), .ref (ad 20), .ref (ad 21), .ref (ad 22), .int (nI np), .int (nI fw), .long rl])), (ad 18, .inl (cI, 24, .inl rq)), (ad 19, .inl (cI, 24, .inl (fun jj => nI (wp jj)))), (ad 20, .inl (cJ, 24, .inr (.inl cu))), (ad 21, .inl (cJ, 24, .inr (.inl fi))), (ad 22, .inl (cI, 24, .inl (fun jj => nI (tr jj)))), (ad 23, .inr (5, [.ref (ad 24), .ref (ad 25), .int (nI sc)])), (ad 24, .inl (cI, 24, .inl pa)), (ad 25, .inl (cI, 24, .inl (fun jj => nI (gr jj)))), (ad 26, .inr (8, [.ref (ad 27), .ref (ad 28), .int (nI vc)])), (ad 27, .inl (cI, 6, .inl tw)), (ad 28, .inl (cI, 6, .inl ow)), (ad 29, .inr (1, [.ref (ad 30), .int (nI 0), .int ml, .int (nI n)])), (ad 30, .inl (cB, 16, .inl f)), (ad 31, .inr (11, [.int (nI th), .int (nI nd), .ref (ad 32), .ref (ad 33), .int (nI bd), .ref (ad 34), .ref (ad 35), .ref (ad 36), .int (nI wn), .ref (ad 37), .ref (ad 38), .ref (ad 39), .ref (ad 40), .ref (ad 41), .long sa, .long sb, .ref (ad 42), .ref (ad 43), .ref (ad 44), .ref (ad 45), .ref (ad 46), .int (nI sc), .ref (ad 47), .ref (ad 48), .ref (ad 49), .int (nI vc), .ref (ad 50), .int (nI my), .ref (ad 51), .ref (ad 52), .ref (ad 53), .int wt, .int wr, .int fo])), (ad 32, .inl (cI, 16, .inl (fun jj => nI (cav jj)))), (ad 33, .inl (cJ, 256, .inr (.inl fa))), (ad 34, .inl (cI, 15, .inl (fun jj => nI (fN jj)))), (ad 35, .inl (cI, 15, .inl (fun jj => nI (oN jj)))), (ad 36, .inl (cJ, 15, .inr (.inl mL))), (ad 37, .inl (cI, 24, .inl (fun jj => nI (eA jj)))), (ad 38, .inl (cI, 24, .inl (fun jj => nI (eB jj)))), (ad 39, .inl (cJ, 24, .inr (.inl lo))), (ad 40, .inl (cJ, 24, .inr (.inl dr))), (ad 41, .inl (cI, 256, .inl wa)), (ad 42, .inl (cZ, 10, .inl td)), (ad 43, .inl (cJ, 10, .inr (.inl ar))), (ad 44, .inl (cJ, 10, .inr (.inl ma))), (ad 45, .inl (cJ, 10, .inr (.inl mo))), (ad 46, .inl (cI, 24, .inl mr)), (ad 47, .inl (cI, 20, .inl (fun jj => nI (pA jj)))), (ad 48, .inl (cI, 20, .inl (fun jj => nI (pB jj)))), (ad 49, .inl (cI, 24, .inl (fun jj => nI (gp jj)))), (ad 50, .inl (cI, 144, .inl (fun jj => nI (mk jj)))), (ad 51, .inl (cI, 24, .inl (fun jj => nI (pk jj)))), (ad 52, .inl (cI, 24, .inl ti)), (ad 53, .inl (cJ, 24, .inr (.inl us))), (ad 54, .inl (cJ, 1, .inr (.inl of)))] 40 [(0, .ref b), (1, .ref (ad 0)), (2, .ref (ad 31)), (3, .ref (ad 54)), (4, .int (nI i))] [.int (nI v)] := fun hq => g_tout C dL_law_40 (Or.inr hq) 1620 (by decide) (g_widen (by omega) (by omega) (K nd bd wn sc vc n cav fN oN ln eA eB col gr pA pB mk wy mL fa lo ar wa td rq mr pa tw ow sa sb th my np fw gp wp pk tr dr ma mo cu fi us of ti f ml wt wr fo rl hR))
    by_cases q0 : v = 0
    · subst q0
      exact g_tin (off := 88) C dL_law_40 (by decide) (by decide) (by decide) 128 (by decide) (law_connector ad C hX hbl hbA hL hi8 hXP hX0 hNc hR K)
    by_cases q1 : v = 1
    · subst q1
      exact g_tin (off := 144) C dL_law_40 (by decide) (by decide) (by decide) 184 (by decide) (law_node ad C hX hbl hbA hL hi8 hXP hX0 hNc hR K)
    by_cases q2 : v = 2
    · subst q2
      exact g_tin (off := 157) C dL_law_40 (by decide) (by decide) (by decide) 197 (by decide) (law_bundle ad C hX hbl hbA hL hi8 hXP hX0 hNc hR K)
    by_cases q3 : v = 3
    · subst q3
      exact g_tin (off := 269) C dL_law_40 (by decide) (by decide) (by decide) 309 (by decide) (law_wire ad C hX hbl hbA hL hi8 hXP hX0 hNc hR K)
    by_cases q4 : v = 4
    · subst q4
      exact g_tin (off := 361) C dL_law_40 (by decide) (by decide) (by decide) 401 (by decide) (law_load ad C hX hbl hbA hL hi8 hXP hX0 hNc hR K)
    by_cases q5 : v = 5
    · subst q5
      exact g_tin (off := 512) C dL_law_40 (by decide) (by decide) (by decide) 552 (by decide) (law_gauge ad C hX hbl hbA hL hi8 hXP hX0 hNc hR K)
    by_cases q6 : v = 6
    · subst q6
      exact g_tin (off := 568) C dL_law_40 (by decide) (by decide) (by decide) 608 (by decide) (law_table ad C hX hbl hbA hL hi8 hXP hX0 hNc hR K)
    by_cases q7 : v = 7
    · subst q7
      exact g_tin (off := 767) C dL_law_40 (by decide) (by decide) (by decide) 807 (by decide) (law_length ad C hX hbl hbA hL hi8 hXP hX0 hNc hR K)
    by_cases q8 : v = 8
    · subst q8
      exact g_tin (off := 822) C dL_law_40 (by decide) (by decide) (by decide) 862 (by decide) (law_slack ad C hX hbl hbA hL hi8 hXP hX0 hNc hR K)
    by_cases q9 : v = 9
    · subst q9
      exact g_tin (off := 961) C dL_law_40 (by decide) (by decide) (by decide) 1001 (by decide) (law_reel ad C hX hbl hbA hL hi8 hXP hX0 hNc hR K)
    by_cases q10 : v = 10
    · subst q10
      exact g_tin (off := 1049) C dL_law_40 (by decide) (by decide) (by decide) 1089 (by decide) (law_reelOf ad C hX hbl hbA hL hi8 hXP hX0 hNc hR K)
    by_cases q11 : v = 11
    · subst q11
      exact g_tin (off := 1105) C dL_law_40 (by decide) (by decide) (by decide) 1145 (by decide) (law_splice ad C hX hbl hbA hL hi8 hXP hX0 hNc hR K)
    by_cases q12 : v = 12
    · subst q12
      exact g_tin (off := 1173) C dL_law_40 (by decide) (by decide) (by decide) 1213 (by decide) (law_joined ad C hX hbl hbA hL hi8 hXP hX0 hNc hR K)
    by_cases q13 : v = 13
    · subst q13
      exact g_tin (off := 1272) C dL_law_40 (by decide) (by decide) (by decide) 1312 (by decide) (law_colour ad C hX hbl hbA hL hi8 hXP hX0 hNc hR K)
    by_cases q14 : v = 14
    · subst q14
      exact g_tin (off := 1328) C dL_law_40 (by decide) (by decide) (by decide) 1368 (by decide) (law_variant ad C hX hbl hbA hL hi8 hXP hX0 hNc hR K)
    by_cases q15 : v = 15
    · subst q15
      exact g_tin (off := 1341) C dL_law_40 (by decide) (by decide) (by decide) 1381 (by decide) (law_has ad C hX hbl hbA hL hi8 hXP hX0 hNc hR K)
    by_cases q16 : v = 16
    · subst q16
      exact g_tin (off := 1444) C dL_law_40 (by decide) (by decide) (by decide) 1484 (by decide) (law_told ad C hX hbl hbA hL hi8 hXP hX0 hNc hR K)
    by_cases q17 : v = 17
    · subst q17
      exact g_tin (off := 1512) C dL_law_40 (by decide) (by decide) (by decide) 1552 (by decide) (law_command ad C hX hbl hbA hL hi8 hXP hX0 hNc hR K)
    exact hdef (by rw [nI_toInt (by omega)]; omega)
