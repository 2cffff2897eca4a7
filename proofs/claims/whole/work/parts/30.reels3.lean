def PF (d : Nat) : Prop := ∀ (l : Launch) (D : va_G) (cI cJ cB cZ : ClassId) (sz : Nat) (m0 : Nat) (m1 : Nat) (m2 : Nat) (m3 : Nat) (m4 : Nat) (m5 : Nat) (np : Nat) (fw : Nat) (rl : Int64) (rq : Nat → Int32) (wp : Nat → Nat) (tr : Nat → Nat) (cu : Nat → Int64) (fi : Nat → Int64) (piece : Nat) (used : Nat) (h8 : np ≤ 8) (hd : piece + d = np) (hu : used ≤ piece) (hf : fw ≤ 9) (hwp : ∀ k, k < np → wp k < 24), Met l yX0_placeFrom wsX0_placeFrom ({ frames := 2 * d + 1, cells := 0, slots := 0, locals := 46 * d + 23 }) (va_Pc [.ref m0, .int (nI piece), .int (nI used)] (pW D (TY cI cJ cB cZ) [(m0, .inr (4, [.ref m1, .ref m2, .ref m3, .ref m4, .ref m5, .int (nI np), .int (nI fw), .long rl])), (m1, .inl (cI, 24, .inl rq)), (m2, .inl (cI, 24, .inl (fun jj => nI (wp jj)))), (m3, .inl (cJ, 24, .inr (.inl cu))), (m4, .inl (cJ, 24, .inr (.inl fi))), (m5, .inl (cI, 24, .inl (fun jj => nI (tr jj))))] (fun _ => True) sz)) (va_Qv (fun (_ : Unit) => True) (qW D (TY cI cJ cB cZ) (va_A [(m0, .inr (4, [.ref m1, .ref m2, .ref m3, .ref m4, .ref m5, .int (nI np), .int (nI fw), .long rl])), (m1, .inl (cI, 24, .inl rq)), (m2, .inl (cI, 24, .inl (fun jj => nI (wp jj)))), (m3, .inl (cJ, 24, .inr (.inl cu))), (m4, .inl (cJ, 24, .inr (.inl fi))), (m5, .inl (cI, 24, .inl (fun jj => nI (tr jj))))] sz) (fun _ => [(m0, .inr (4, [.ref m1, .ref m2, .ref m3, .ref m4, .ref m5, .int (nI np), .int (nI ((pfS np rl cu wp d piece used fi (tr, fw, rq)).2.1)), .long rl])), (m1, .inl (cI, 24, .inl ((pfS np rl cu wp d piece used fi (tr, fw, rq)).2.2))), (m2, .inl (cI, 24, .inl (fun jj => nI (wp jj)))), (m3, .inl (cJ, 24, .inr (.inl cu))), (m4, .inl (cJ, 24, .inr (.inl fi))), (m5, .inl (cI, 24, .inl (fun jj => nI (((pfS np rl cu wp d piece used fi (tr, fw, rq)).1) jj))))])) (va_A [(m0, .inr (4, [.ref m1, .ref m2, .ref m3, .ref m4, .ref m5, .int (nI np), .int (nI fw), .long rl])), (m1, .inl (cI, 24, .inl rq)), (m2, .inl (cI, 24, .inl (fun jj => nI (wp jj)))), (m3, .inl (cJ, 24, .inr (.inl cu))), (m4, .inl (cJ, 24, .inr (.inl fi))), (m5, .inl (cI, 24, .inl (fun jj => nI (tr jj))))] sz)) 0 0 (va_A [(m0, .inr (4, [.ref m1, .ref m2, .ref m3, .ref m4, .ref m5, .int (nI np), .int (nI fw), .long rl])), (m1, .inl (cI, 24, .inl rq)), (m2, .inl (cI, 24, .inl (fun jj => nI (wp jj)))), (m3, .inl (cJ, 24, .inr (.inl cu))), (m4, .inl (cJ, 24, .inr (.inl fi))), (m5, .inl (cI, 24, .inl (fun jj => nI (tr jj))))] sz)

def PO (d : Nat) : Prop := ∀ (l : Launch) (D : va_G) (cI cJ cB cZ : ClassId) (sz : Nat) (m0 : Nat) (m1 : Nat) (m2 : Nat) (m3 : Nat) (m4 : Nat) (m5 : Nat) (np : Nat) (fw : Nat) (rl : Int64) (rq : Nat → Int32) (wp : Nat → Nat) (tr : Nat → Nat) (cu : Nat → Int64) (fi : Nat → Int64) (piece : Nat) (r : Nat) (used : Nat) (h8 : np ≤ 8) (hd : piece + d + 1 = np) (hr : r ≤ used) (hu : used ≤ piece) (hf : fw ≤ 9) (hwp : ∀ k, k < np → wp k < 24), Met l yX0_placeOn wsX0_placeOn ({ frames := 2 * d + 2, cells := 0, slots := 0, locals := 46 * d + 46 }) (va_Pc [.ref m0, .int (nI piece), .int (nI r), .int (nI used)] (pW D (TY cI cJ cB cZ) [(m0, .inr (4, [.ref m1, .ref m2, .ref m3, .ref m4, .ref m5, .int (nI np), .int (nI fw), .long rl])), (m1, .inl (cI, 24, .inl rq)), (m2, .inl (cI, 24, .inl (fun jj => nI (wp jj)))), (m3, .inl (cJ, 24, .inr (.inl cu))), (m4, .inl (cJ, 24, .inr (.inl fi))), (m5, .inl (cI, 24, .inl (fun jj => nI (tr jj))))] (fun _ => True) sz)) (va_Qv (fun (_ : Unit) => True) (qW D (TY cI cJ cB cZ) (va_A [(m0, .inr (4, [.ref m1, .ref m2, .ref m3, .ref m4, .ref m5, .int (nI np), .int (nI fw), .long rl])), (m1, .inl (cI, 24, .inl rq)), (m2, .inl (cI, 24, .inl (fun jj => nI (wp jj)))), (m3, .inl (cJ, 24, .inr (.inl cu))), (m4, .inl (cJ, 24, .inr (.inl fi))), (m5, .inl (cI, 24, .inl (fun jj => nI (tr jj))))] sz) (fun _ => [(m0, .inr (4, [.ref m1, .ref m2, .ref m3, .ref m4, .ref m5, .int (nI np), .int (nI ((poS np rl cu wp d piece used fi r (tr, fw, rq)).2.1)), .long rl])), (m1, .inl (cI, 24, .inl ((poS np rl cu wp d piece used fi r (tr, fw, rq)).2.2))), (m2, .inl (cI, 24, .inl (fun jj => nI (wp jj)))), (m3, .inl (cJ, 24, .inr (.inl cu))), (m4, .inl (cJ, 24, .inr (.inl fi))), (m5, .inl (cI, 24, .inl (fun jj => nI (((poS np rl cu wp d piece used fi r (tr, fw, rq)).1) jj))))])) (va_A [(m0, .inr (4, [.ref m1, .ref m2, .ref m3, .ref m4, .ref m5, .int (nI np), .int (nI fw), .long rl])), (m1, .inl (cI, 24, .inl rq)), (m2, .inl (cI, 24, .inl (fun jj => nI (wp jj)))), (m3, .inl (cJ, 24, .inr (.inl cu))), (m4, .inl (cJ, 24, .inr (.inl fi))), (m5, .inl (cI, 24, .inl (fun jj => nI (tr jj))))] sz)) 0 0 (va_A [(m0, .inr (4, [.ref m1, .ref m2, .ref m3, .ref m4, .ref m5, .int (nI np), .int (nI fw), .long rl])), (m1, .inl (cI, 24, .inl rq)), (m2, .inl (cI, 24, .inl (fun jj => nI (wp jj)))), (m3, .inl (cJ, 24, .inr (.inl cu))), (m4, .inl (cJ, 24, .inr (.inl fi))), (m5, .inl (cI, 24, .inl (fun jj => nI (tr jj))))] sz)

theorem iw_X0_placeFrom_X0 : ∀ w ∈ wsX00, w ∈ wsX0_placeFrom := by decide +kernel
set_option maxHeartbeats 4000000 in
set_option maxRecDepth 100000 in
theorem c_pf_0 : PF 0 := by
  intro l D cI cJ cB cZ sz m0 m1 m2 m3 m4 m5 np fw rl rq wp tr cu fi piece used h8 hd hu hf hwp
  refine gx_met RX0 rfl (by decide) rfl (Nat.le_of_ble_eq_true rfl) ?_
  intro X hl hDx hAx C hQ hXP hsz hin
  subst hl; subst hDx
  rw [← hAx] at hQ
  refine g_lv [0, 1, 2] (lv' := [(0, .ref m0), (1, .int (nI piece)), (2, .int (nI used))]) rfl ?_
  refine g_iload_n C dX0_placeFrom_0 1 rfl rfl ?_
  refine g_aload_n C dX0_placeFrom_1 2 rfl rfl ?_
  refine g_get C iw_X0_placeFrom_X0 0 rfl rfl 6 (by decide) (by decide +kernel) rfl rfl dX0_placeFrom_2 5 rfl ?_
  refine g_icmp_lt_n C dX0_placeFrom_5 9 8 (by decide) rfl (by omega) (by omega) (fun c5 => ?_) (fun c5 => ?_)
  · refine g_iload_n C dX0_placeFrom_9 10 rfl rfl ?_
    refine g_aload_n C dX0_placeFrom_10 11 rfl rfl ?_
    refine g_get C iw_X0_placeFrom_X0 0 rfl rfl 5 (by decide) (by decide +kernel) rfl rfl dX0_placeFrom_11 14 rfl ?_
    refine g_icmp_lt_n C dX0_placeFrom_14 23 17 (by decide) rfl (by omega) (by omega) (fun c14 => ?_) (fun c14 => ?_)
    · exact absurd c14 (by omega)
    · refine g_aload_n C dX0_placeFrom_17 18 rfl rfl ?_
      refine g_iload_n C dX0_placeFrom_18 19 rfl rfl ?_
      refine g_callVv (ci := 4) (q0 := 0) (As := [.int (nI used)]) (rest := []) (wr := [(m3, .inl (cJ, 24, .inr (.inl cu))), (m4, .inl (cJ, 24, .inr (.inl fi)))]) (ws' := fun (_ : Unit) => [(m0, .inr (4, [.ref m1, .ref m2, .ref m3, .ref m4, .ref m5, .int (nI np), .int (nI used), .long rl])), (m1, .inl (cI, 24, .inl (kt rq wp tr np))), (m2, .inl (cI, 24, .inl (fun jj => nI (wp jj)))), (m3, .inl (cJ, 24, .inr (.inl cu))), (m4, .inl (cJ, 24, .inr (.inl fi))), (m5, .inl (cI, 24, .inl (fun jj => nI (tr jj))))]) C (fun sz => c_X0_keepTrial _ _ cI cJ cB cZ sz m0 m1 m2 m3 m4 m5 np fw rl rq wp tr used (by omega) hwp) gx_XP0 1 gX0_placeFrom_X0_keepTrial rfl rfl rfl (by decide +kernel) ⟨by dsimp only; omega, by dsimp only; omega⟩ rfl rfl [0, 1, 2, 5] [3, 4] [2, 3, 4, 0, 1, 5] rfl (by decide) rfl (by decide) (by decide) (fun _ => rfl) (by decide) rfl rfl (Nat.le_of_ble_eq_true rfl) dX0_placeFrom_19 ⟨Nat.le_of_ble_eq_true rfl, Nat.le_of_ble_eq_true rfl⟩ 22 rfl (fun _ _ => ?_)
      exact g_vret C hQ (Nat.le_of_ble_eq_true rfl) (Nat.le_of_ble_eq_true rfl) dX0_placeFrom_22 () trivial (by simp [pfS, show ¬ fw ≤ used by omega])
  · exact g_vret C hQ (Nat.le_of_ble_eq_true rfl) (Nat.le_of_ble_eq_true rfl) dX0_placeFrom_8 () trivial (by simp [pfS, c5])

theorem iw_X0_placeOn_X0 : ∀ w ∈ wsX00, w ∈ wsX0_placeOn := by decide +kernel
set_option maxHeartbeats 4000000 in
set_option maxRecDepth 100000 in
theorem c_po (d : Nat) (HF : PF d) : PO d := by
  intro l D cI cJ cB cZ sz m0 m1 m2 m3 m4 m5 np fw rl rq wp tr cu fi piece r used h8 hd hr hu hf hwp
  refine gx_met RX0 rfl (by decide) rfl (Nat.le_of_ble_eq_true rfl) ?_
  intro X hl hDx hAx C hQ hXP hsz hin
  subst hl; subst hDx
  rw [← hAx] at hQ
  refine g_lv [0, 1, 2, 3] (lv' := [(0, .ref m0), (1, .int (nI piece)), (2, .int (nI r)), (3, .int (nI used))]) rfl ?_
  refine g_aload_n C dX0_placeOn_0 1 rfl rfl ?_
  refine g_iload_n C dX0_placeOn_1 2 rfl rfl ?_
  refine g_iload_n C dX0_placeOn_2 3 rfl rfl ?_
  refine g_callVi (ci := 4) (q0 := 0) (As := [.int (nI r), .int (nI piece)]) (rest := []) (wr := [(m1, .inl (cI, 24, .inl rq)), (m2, .inl (cI, 24, .inl (fun jj => nI (wp jj)))), (m5, .inl (cI, 24, .inl (fun jj => nI (tr jj))))]) (ws' := fun (_ : Unit) => [(m0, .inr (4, [.ref m1, .ref m2, .ref m3, .ref m4, .ref m5, .int (nI np), .int (nI fw), .long rl])), (m1, .inl (cI, 24, .inl rq)), (m2, .inl (cI, 24, .inl (fun jj => nI (wp jj)))), (m3, .inl (cJ, 24, .inr (.inl cu))), (m4, .inl (cJ, 24, .inr (.inl fi))), (m5, .inl (cI, 24, .inl (fun jj => nI (tr jj))))]) C (fun sz => c_X0_hasRoom _ _ cI cJ cB cZ sz m0 m1 m2 m3 m4 m5 np fw rl cu fi r piece (by omega) (by omega)) gx_XP0 2 gX0_placeOn_X0_hasRoom rfl rfl rfl (by decide +kernel) ⟨by dsimp only; omega, by dsimp only; omega⟩ rfl rfl [0, 3, 4] [1, 2, 5] [3, 0, 1, 4, 5, 2] rfl (by decide) rfl (by decide) (by decide) (fun _ => rfl) (by decide) rfl rfl (Nat.le_of_ble_eq_true rfl) dX0_placeOn_3 ⟨Nat.le_of_ble_eq_true rfl, Nat.le_of_ble_eq_true rfl⟩ 6 rfl (eqk ?_)
  refine g_if_ne_b C dX0_placeOn_6 10 9 (by decide) rfl (fun c6 => ?_) (fun c6 => ?_)
  · refine g_aload_n C dX0_placeOn_10 11 rfl rfl ?_
    refine g_get C iw_X0_placeOn_X0 0 rfl rfl 3 (by decide) (by decide +kernel) rfl rfl dX0_placeOn_11 14 rfl ?_
    refine g_iload_n C dX0_placeOn_14 15 rfl rfl ?_
    refine g_dup2_11 C dX0_placeOn_15 16 rfl rfl rfl ?_
    refine g_lald C 4 1 rfl rfl r rfl (by omega) (by decide) dX0_placeOn_16 17 rfl ?_
    refine g_aload_n C dX0_placeOn_17 18 rfl rfl ?_
    refine g_get C iw_X0_placeOn_X0 0 rfl rfl 2 (by decide) (by decide +kernel) rfl rfl dX0_placeOn_18 21 rfl ?_
    refine g_iload_n C dX0_placeOn_21 22 rfl rfl ?_
    refine g_lald C 3 1 rfl rfl piece rfl (by omega) (by decide) dX0_placeOn_22 23 rfl ?_
    refine g_ladd C dX0_placeOn_23 24 rfl ?_
    refine g_last C 4 1 rfl rfl r rfl (by omega) (by decide) dX0_placeOn_24 25 rfl (ws' := [(m0, .inr (4, [.ref m1, .ref m2, .ref m3, .ref m4, .ref m5, .int (nI np), .int (nI fw), .long rl])), (m1, .inl (cI, 24, .inl rq)), (m2, .inl (cI, 24, .inl (fun jj => nI (wp jj)))), (m3, .inl (cJ, 24, .inr (.inl cu))), (m4, .inl (cJ, 24, .inr (.inl (vp_updL fi r ((fi r) + (cu piece)))))), (m5, .inl (cI, 24, .inl (fun jj => nI (tr jj))))]) rfl ?_
    refine g_aload_n C dX0_placeOn_25 26 rfl rfl ?_
    refine g_get C iw_X0_placeOn_X0 0 rfl rfl 4 (by decide) (by decide +kernel) rfl rfl dX0_placeOn_26 29 rfl ?_
    refine g_iload_n C dX0_placeOn_29 30 rfl rfl ?_
    refine g_iload_n C dX0_placeOn_30 31 rfl rfl ?_
    refine g_iast C 5 0 rfl rfl piece rfl (by omega) (by decide) dX0_placeOn_31 32 rfl (ws' := [(m0, .inr (4, [.ref m1, .ref m2, .ref m3, .ref m4, .ref m5, .int (nI np), .int (nI fw), .long rl])), (m1, .inl (cI, 24, .inl rq)), (m2, .inl (cI, 24, .inl (fun jj => nI (wp jj)))), (m3, .inl (cJ, 24, .inr (.inl cu))), (m4, .inl (cJ, 24, .inr (.inl (vp_updL fi r ((fi r) + (cu piece)))))), (m5, .inl (cI, 24, .inl (fun jj => nI ((updN tr piece r) jj))))]) (by rw [upd_nI]; rfl) ?_
    refine g_aload_n C dX0_placeOn_32 33 rfl rfl ?_
    refine g_iload_n C dX0_placeOn_33 34 rfl rfl ?_
    refine g_iconst (v := nI 1) C dX0_placeOn_34 35 rfl (by decide) ?_
    refine g_iaddn C dX0_placeOn_35 36 rfl ?_
    refine g_iload_n C dX0_placeOn_36 37 rfl rfl ?_
    refine g_iload_n C dX0_placeOn_37 38 rfl rfl ?_
    refine g_iconst (v := nI 1) C dX0_placeOn_38 39 rfl (by decide) ?_
    refine g_iaddn C dX0_placeOn_39 40 rfl ?_
    refine g_maxn C (by decide +kernel) (by decide +kernel) (by decide +kernel) (by first | exact List.mem_of_getElem? (i := 1) rfl | exact List.mem_of_getElem? (i := 2) rfl | exact List.mem_of_getElem? (i := 3) rfl | exact List.mem_of_getElem? (i := 4) rfl | exact List.mem_of_getElem? (i := 5) rfl | exact List.mem_of_getElem? (i := 6) rfl | exact List.mem_of_getElem? (i := 7) rfl | exact List.mem_of_getElem? (i := 8) rfl | exact List.mem_of_getElem? (i := 9) rfl | exact List.mem_of_getElem? (i := 10) rfl | exact List.mem_of_getElem? (i := 11) rfl | exact List.mem_of_getElem? (i := 12) rfl | exact List.mem_of_getElem? (i := 13) rfl | exact List.mem_of_getElem? (i := 14) rfl | exact List.mem_of_getElem? (i := 15) rfl | exact List.mem_of_getElem? (i := 16) rfl | exact List.mem_of_getElem? (i := 17) rfl | exact List.mem_of_getElem? (i := 18) rfl | exact List.mem_of_getElem? (i := 19) rfl | exact List.mem_of_getElem? (i := 20) rfl | exact List.mem_of_getElem? (i := 21) rfl | exact List.mem_of_getElem? (i := 22) rfl | exact List.mem_of_getElem? (i := 23) rfl | exact List.mem_of_getElem? (i := 24) rfl | exact List.mem_of_getElem? (i := 25) rfl | exact List.mem_of_getElem? (i := 26) rfl | exact List.mem_of_getElem? (i := 27) rfl | exact List.mem_of_getElem? (i := 28) rfl | exact List.mem_of_getElem? (i := 29) rfl | exact List.mem_of_getElem? (i := 30) rfl | exact List.mem_of_getElem? (i := 31) rfl | exact List.mem_of_getElem? (i := 32) rfl | exact List.mem_of_getElem? (i := 33) rfl | exact List.mem_of_getElem? (i := 34) rfl | exact List.mem_of_getElem? (i := 35) rfl | exact List.mem_of_getElem? (i := 36) rfl | exact List.mem_of_getElem? (i := 37) rfl | exact List.mem_of_getElem? (i := 38) rfl | exact List.mem_of_getElem? (i := 39) rfl | exact List.mem_of_getElem? (i := 40) rfl | exact List.mem_of_getElem? (i := 41) rfl | exact List.mem_of_getElem? (i := 42) rfl | exact List.mem_of_getElem? (i := 43) rfl | exact List.mem_of_getElem? (i := 44) rfl | exact List.mem_of_getElem? (i := 45) rfl | exact List.mem_of_getElem? (i := 46) rfl | exact List.mem_of_getElem? (i := 47) rfl | exact List.mem_of_getElem? (i := 48) rfl | exact List.mem_of_getElem? (i := 49) rfl | exact List.mem_of_getElem? (i := 50) rfl | exact List.mem_of_getElem? (i := 51) rfl | exact List.mem_of_getElem? (i := 52) rfl | exact List.mem_of_getElem? (i := 53) rfl | exact List.mem_of_getElem? (i := 54) rfl | exact List.mem_of_getElem? (i := 55) rfl | exact List.mem_of_getElem? (i := 56) rfl | exact List.mem_of_getElem? (i := 57) rfl | exact List.mem_of_getElem? (i := 58) rfl | exact List.mem_of_getElem? (i := 59) rfl) dX0_placeOn_40 43 rfl (by dsimp only; omega) (by show _ ≤ _; simp [Value.category]) (Nat.zero_le _) (Nat.zero_le _) (by omega) (by omega) ?_
    refine g_callVv (ci := 4) (q0 := 0) (As := [.int (nI (piece + 1)), .int (nI (Nat.max used (r + 1)))]) (rest := []) (wr := []) (ws' := fun (_ : Unit) => [(m0, .inr (4, [.ref m1, .ref m2, .ref m3, .ref m4, .ref m5, .int (nI np), .int (nI ((pfS np rl cu wp d (piece + 1) (Nat.max used (r + 1)) (vp_updL fi r ((fi r) + (cu piece))) ((updN tr piece r), fw, rq)).2.1)), .long rl])), (m1, .inl (cI, 24, .inl ((pfS np rl cu wp d (piece + 1) (Nat.max used (r + 1)) (vp_updL fi r ((fi r) + (cu piece))) ((updN tr piece r), fw, rq)).2.2))), (m2, .inl (cI, 24, .inl (fun jj => nI (wp jj)))), (m3, .inl (cJ, 24, .inr (.inl cu))), (m4, .inl (cJ, 24, .inr (.inl (vp_updL fi r ((fi r) + (cu piece)))))), (m5, .inl (cI, 24, .inl (fun jj => nI (((pfS np rl cu wp d (piece + 1) (Nat.max used (r + 1)) (vp_updL fi r ((fi r) + (cu piece))) ((updN tr piece r), fw, rq)).1) jj))))]) C (fun sz => HF _ _ cI cJ cB cZ sz m0 m1 m2 m3 m4 m5 np fw rl rq wp (updN tr piece r) cu (vp_updL fi r ((fi r) + (cu piece))) (piece + 1) (Nat.max used (r + 1)) (by omega) (by omega) (Nat.max_le.mpr ⟨by omega, by omega⟩) (by omega) hwp) gx_XP0 2 gX0_placeOn_X0_placeFrom rfl rfl rfl (by decide +kernel) ⟨by dsimp only; omega, by dsimp only; omega⟩ rfl rfl [0, 1, 2, 3, 4, 5] [] [0, 1, 2, 3, 4, 5] rfl (by decide) rfl (by decide) (by decide) (fun _ => rfl) (by decide) rfl rfl (Nat.le_of_ble_eq_true rfl) dX0_placeOn_43 ⟨Nat.le_of_ble_eq_true rfl, Nat.le_of_ble_eq_true rfl⟩ 46 rfl (fun _ _ => ?_)
    refine g_aload_n C dX0_placeOn_46 47 rfl rfl ?_
    refine g_get C iw_X0_placeOn_X0 0 rfl rfl 3 (by decide) (by decide +kernel) rfl rfl dX0_placeOn_47 50 rfl ?_
    refine g_iload_n C dX0_placeOn_50 51 rfl rfl ?_
    refine g_dup2_11 C dX0_placeOn_51 52 rfl rfl rfl ?_
    refine g_lald C 4 1 rfl rfl r rfl (by omega) (by decide) dX0_placeOn_52 53 rfl ?_
    refine g_aload_n C dX0_placeOn_53 54 rfl rfl ?_
    refine g_get C iw_X0_placeOn_X0 0 rfl rfl 2 (by decide) (by decide +kernel) rfl rfl dX0_placeOn_54 57 rfl ?_
    refine g_iload_n C dX0_placeOn_57 58 rfl rfl ?_
    refine g_lald C 3 1 rfl rfl piece rfl (by omega) (by decide) dX0_placeOn_58 59 rfl ?_
    refine g_lsub C dX0_placeOn_59 60 rfl ?_
    refine g_last C 4 1 rfl rfl r rfl (by omega) (by decide) dX0_placeOn_60 61 rfl (ws' := [(m0, .inr (4, [.ref m1, .ref m2, .ref m3, .ref m4, .ref m5, .int (nI np), .int (nI ((pfS np rl cu wp d (piece + 1) (Nat.max used (r + 1)) (vp_updL fi r ((fi r) + (cu piece))) ((updN tr piece r), fw, rq)).2.1)), .long rl])), (m1, .inl (cI, 24, .inl ((pfS np rl cu wp d (piece + 1) (Nat.max used (r + 1)) (vp_updL fi r ((fi r) + (cu piece))) ((updN tr piece r), fw, rq)).2.2))), (m2, .inl (cI, 24, .inl (fun jj => nI (wp jj)))), (m3, .inl (cJ, 24, .inr (.inl cu))), (m4, .inl (cJ, 24, .inr (.inl (vp_updL (vp_updL fi r ((fi r) + (cu piece))) r (((vp_updL fi r ((fi r) + (cu piece))) r) - (cu piece)))))), (m5, .inl (cI, 24, .inl (fun jj => nI (((pfS np rl cu wp d (piece + 1) (Nat.max used (r + 1)) (vp_updL fi r ((fi r) + (cu piece))) ((updN tr piece r), fw, rq)).1) jj))))]) rfl ?_
    exact g_vret C hQ (Nat.le_of_ble_eq_true rfl) (Nat.le_of_ble_eq_true rfl) dX0_placeOn_61 () trivial (by rw [updL_back]; simp [poS, c6])
  · exact g_vret C hQ (Nat.le_of_ble_eq_true rfl) (Nat.le_of_ble_eq_true rfl) dX0_placeOn_9 () trivial (by simp [poS, c6])

set_option maxHeartbeats 4000000 in
set_option maxRecDepth 100000 in
theorem c_pf_S (d : Nat) (HO : PO d) : PF (d + 1) := by
  intro l D cI cJ cB cZ sz m0 m1 m2 m3 m4 m5 np fw rl rq wp tr cu fi piece used h8 hd hu hf hwp
  refine gx_met RX0 rfl (by decide) rfl (Nat.le_of_ble_eq_true rfl) ?_
  intro X hl hDx hAx C hQ hXP hsz hin
  subst hl; subst hDx
  rw [← hAx] at hQ
  refine g_lv [0, 1, 2] (lv' := [(0, .ref m0), (1, .int (nI piece)), (2, .int (nI used))]) rfl ?_
  refine g_iload_n C dX0_placeFrom_0 1 rfl rfl ?_
  refine g_aload_n C dX0_placeFrom_1 2 rfl rfl ?_
  refine g_get C iw_X0_placeFrom_X0 0 rfl rfl 6 (by decide) (by decide +kernel) rfl rfl dX0_placeFrom_2 5 rfl ?_
  refine g_icmp_lt_n C dX0_placeFrom_5 9 8 (by decide) rfl (by omega) (by omega) (fun c5 => ?_) (fun c5 => ?_)
  · refine g_iload_n C dX0_placeFrom_9 10 rfl rfl ?_
    refine g_aload_n C dX0_placeFrom_10 11 rfl rfl ?_
    refine g_get C iw_X0_placeFrom_X0 0 rfl rfl 5 (by decide) (by decide +kernel) rfl rfl dX0_placeFrom_11 14 rfl ?_
    refine g_icmp_lt_n C dX0_placeFrom_14 23 17 (by decide) rfl (by omega) (by omega) (fun c14 => ?_) (fun c14 => ?_)
    · refine g_iconst (v := nI 0) C dX0_placeFrom_23 24 rfl (by decide) ?_
      refine g_istore_n C dX0_placeFrom_24 25 rfl (by decide) [1, 2, 3, 0] (lv' := [(0, .ref m0), (1, .int (nI piece)), (2, .int (nI used)), (3, .int (nI 0))]) rfl ?_
      have hloop : ∀ (fuel i : Nat), i ≤ (used + 1) → (used + 1) + 1 ≤ i + fuel → ((ploop (poS np rl cu wp d piece used fi) i (tr, fw, rq)).2.1 ≤ 9) → gx X 0 0 [(m0, .inr (4, [.ref m1, .ref m2, .ref m3, .ref m4, .ref m5, .int (nI np), .int (nI ((ploop (poS np rl cu wp d piece used fi) i (tr, fw, rq)).2.1)), .long rl])), (m1, .inl (cI, 24, .inl ((ploop (poS np rl cu wp d piece used fi) i (tr, fw, rq)).2.2))), (m2, .inl (cI, 24, .inl (fun jj => nI (wp jj)))), (m3, .inl (cJ, 24, .inr (.inl cu))), (m4, .inl (cJ, 24, .inr (.inl fi))), (m5, .inl (cI, 24, .inl (fun jj => nI (((ploop (poS np rl cu wp d piece used fi) i (tr, fw, rq)).1) jj))))] 25 [(0, .ref m0), (1, .int (nI piece)), (2, .int (nI used)), (3, .int (nI i))] [] := by
        intro fuel
        induction fuel with
        | zero => intro i h1 h2; exact absurd h2 (by omega)
        | succ fuel hloop_ih =>
          intro i hle hfu hf9
          refine g_iload_n C dX0_placeFrom_25 26 rfl rfl ?_
          refine g_iload_n C dX0_placeFrom_26 27 rfl rfl ?_
          refine g_icmp_gt_n C dX0_placeFrom_27 43 30 (by decide) rfl (by omega) (by omega) (fun c27 => ?_) (fun c27 => ?_)
          · have e_i : used + 1 = i := by omega
            subst e_i
            exact g_vret C hQ (Nat.le_of_ble_eq_true rfl) (Nat.le_of_ble_eq_true rfl) dX0_placeFrom_43 () trivial (by rw [pfS_succ, if_neg (by dsimp only; omega)])
          · refine g_aload_n C dX0_placeFrom_30 31 rfl rfl ?_
            refine g_iload_n C dX0_placeFrom_31 32 rfl rfl ?_
            refine g_iload_n C dX0_placeFrom_32 33 rfl rfl ?_
            refine g_iload_n C dX0_placeFrom_33 34 rfl rfl ?_
            refine g_callVv (ci := 4) (q0 := 0) (As := [.int (nI piece), .int (nI i), .int (nI used)]) (rest := []) (wr := []) (ws' := fun (_ : Unit) => [(m0, .inr (4, [.ref m1, .ref m2, .ref m3, .ref m4, .ref m5, .int (nI np), .int (nI ((poS np rl cu wp d piece used fi i (((ploop (poS np rl cu wp d piece used fi) i (tr, fw, rq)).1), ((ploop (poS np rl cu wp d piece used fi) i (tr, fw, rq)).2.1), ((ploop (poS np rl cu wp d piece used fi) i (tr, fw, rq)).2.2))).2.1)), .long rl])), (m1, .inl (cI, 24, .inl ((poS np rl cu wp d piece used fi i (((ploop (poS np rl cu wp d piece used fi) i (tr, fw, rq)).1), ((ploop (poS np rl cu wp d piece used fi) i (tr, fw, rq)).2.1), ((ploop (poS np rl cu wp d piece used fi) i (tr, fw, rq)).2.2))).2.2))), (m2, .inl (cI, 24, .inl (fun jj => nI (wp jj)))), (m3, .inl (cJ, 24, .inr (.inl cu))), (m4, .inl (cJ, 24, .inr (.inl fi))), (m5, .inl (cI, 24, .inl (fun jj => nI (((poS np rl cu wp d piece used fi i (((ploop (poS np rl cu wp d piece used fi) i (tr, fw, rq)).1), ((ploop (poS np rl cu wp d piece used fi) i (tr, fw, rq)).2.1), ((ploop (poS np rl cu wp d piece used fi) i (tr, fw, rq)).2.2))).1) jj))))]) C (fun sz => HO _ _ cI cJ cB cZ sz m0 m1 m2 m3 m4 m5 np ((ploop (poS np rl cu wp d piece used fi) i (tr, fw, rq)).2.1) rl ((ploop (poS np rl cu wp d piece used fi) i (tr, fw, rq)).2.2) wp ((ploop (poS np rl cu wp d piece used fi) i (tr, fw, rq)).1) cu fi piece i used (by omega) (by omega) (by omega) (by omega) hf9 hwp) gx_XP0 3 gX0_placeFrom_X0_placeOn rfl rfl rfl (by decide +kernel) ⟨by dsimp only; omega, by dsimp only; omega⟩ rfl rfl [0, 1, 2, 3, 4, 5] [] [0, 1, 2, 3, 4, 5] rfl (by decide) rfl (by decide) (by decide) (fun _ => rfl) (by decide) rfl rfl (Nat.le_of_ble_eq_true rfl) dX0_placeFrom_34 ⟨Nat.le_of_ble_eq_true rfl, Nat.le_of_ble_eq_true rfl⟩ 37 rfl (fun _ _ => ?_)
            refine g_iinc (v := nI (i + 1)) C dX0_placeFrom_37 40 rfl rfl (nI_add i 1) (by decide) [1, 2, 3, 0] (lv' := [(0, .ref m0), (1, .int (nI piece)), (2, .int (nI used)), (3, .int (nI (i + 1)))]) rfl ?_
            refine g_goto C dX0_placeFrom_40 25 (by decide) ?_
            rw [show poS np rl cu wp d piece used fi i ((ploop (poS np rl cu wp d piece used fi) i (tr, fw, rq)).1, (ploop (poS np rl cu wp d piece used fi) i (tr, fw, rq)).2.1, (ploop (poS np rl cu wp d piece used fi) i (tr, fw, rq)).2.2) = ploop (poS np rl cu wp d piece used fi) (i + 1) (tr, fw, rq) from rfl]
            exact hloop_ih (i + 1) (by omega) (by omega) (Nat.le_trans (poS_fw _ _ _ _ _ _ _ _ _ _) hf9)
      refine g_ws (ws' := [(m0, .inr (4, [.ref m1, .ref m2, .ref m3, .ref m4, .ref m5, .int (nI np), .int (nI ((ploop (poS np rl cu wp d piece used fi) 0 (tr, fw, rq)).2.1)), .long rl])), (m1, .inl (cI, 24, .inl ((ploop (poS np rl cu wp d piece used fi) 0 (tr, fw, rq)).2.2))), (m2, .inl (cI, 24, .inl (fun jj => nI (wp jj)))), (m3, .inl (cJ, 24, .inr (.inl cu))), (m4, .inl (cJ, 24, .inr (.inl fi))), (m5, .inl (cI, 24, .inl (fun jj => nI (((ploop (poS np rl cu wp d piece used fi) 0 (tr, fw, rq)).1) jj))))]) rfl ?_
      exact hloop ((used + 1) + 1) 0 (by omega) (by omega) hf
    · exact absurd c14 (by omega)
  · exact g_vret C hQ (Nat.le_of_ble_eq_true rfl) (Nat.le_of_ble_eq_true rfl) dX0_placeFrom_8 () trivial (by rw [pfS_succ, if_pos c5])

theorem c_X0_placeFrom : ∀ d, PF d
  | 0 => c_pf_0
  | d + 1 => c_pf_S d (c_po d (c_X0_placeFrom d))
