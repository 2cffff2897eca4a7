theorem iw_X0_packOnFewest_X0 : ∀ w ∈ wsX00, w ∈ wsX0_packOnFewest := by decide +kernel
set_option maxHeartbeats 4000000 in
set_option maxRecDepth 100000 in
theorem c_X0_packOnFewest (l : Launch) (D : va_G) (cI cJ cB cZ : ClassId) (sz : Nat) (m0 : Nat) (m1 : Nat) (m2 : Nat) (m3 : Nat) (m4 : Nat) (m5 : Nat) (np : Nat) (fw : Nat) (rl : Int64) (rq : Nat → Int32) (wp : Nat → Nat) (tr : Nat → Nat) (cu : Nat → Int64) (fi : Nat → Int64) (h8 : np ≤ 8) (hwp : ∀ k, k < np → wp k < 24) : Met l yX0_packOnFewest wsX0_packOnFewest ({ frames := 18, cells := 0, slots := 0, locals := 414 }) (va_Pc [.ref m0] (pW D (TY cI cJ cB cZ) [(m0, .inr (4, [.ref m1, .ref m2, .ref m3, .ref m4, .ref m5, .int (nI np), .int (nI fw), .long rl])), (m1, .inl (cI, 24, .inl rq)), (m2, .inl (cI, 24, .inl (fun jj => nI (wp jj)))), (m3, .inl (cJ, 24, .inr (.inl cu))), (m4, .inl (cJ, 24, .inr (.inl fi))), (m5, .inl (cI, 24, .inl (fun jj => nI (tr jj))))] (fun _ => True) sz)) (va_Qi (fun (rv : Int32) (_ : Unit) => rv = nI ((pfS np rl cu wp np 0 0 fi (tr, np + 1, rq)).2.1)) (qW D (TY cI cJ cB cZ) (va_A [(m0, .inr (4, [.ref m1, .ref m2, .ref m3, .ref m4, .ref m5, .int (nI np), .int (nI fw), .long rl])), (m1, .inl (cI, 24, .inl rq)), (m2, .inl (cI, 24, .inl (fun jj => nI (wp jj)))), (m3, .inl (cJ, 24, .inr (.inl cu))), (m4, .inl (cJ, 24, .inr (.inl fi))), (m5, .inl (cI, 24, .inl (fun jj => nI (tr jj))))] sz) (fun _ => [(m0, .inr (4, [.ref m1, .ref m2, .ref m3, .ref m4, .ref m5, .int (nI np), .int (nI ((pfS np rl cu wp np 0 0 fi (tr, np + 1, rq)).2.1)), .long rl])), (m1, .inl (cI, 24, .inl ((pfS np rl cu wp np 0 0 fi (tr, np + 1, rq)).2.2))), (m2, .inl (cI, 24, .inl (fun jj => nI (wp jj)))), (m3, .inl (cJ, 24, .inr (.inl cu))), (m4, .inl (cJ, 24, .inr (.inl fi))), (m5, .inl (cI, 24, .inl (fun jj => nI (((pfS np rl cu wp np 0 0 fi (tr, np + 1, rq)).1) jj))))])) (va_A [(m0, .inr (4, [.ref m1, .ref m2, .ref m3, .ref m4, .ref m5, .int (nI np), .int (nI fw), .long rl])), (m1, .inl (cI, 24, .inl rq)), (m2, .inl (cI, 24, .inl (fun jj => nI (wp jj)))), (m3, .inl (cJ, 24, .inr (.inl cu))), (m4, .inl (cJ, 24, .inr (.inl fi))), (m5, .inl (cI, 24, .inl (fun jj => nI (tr jj))))] sz)) 0 0 (va_A [(m0, .inr (4, [.ref m1, .ref m2, .ref m3, .ref m4, .ref m5, .int (nI np), .int (nI fw), .long rl])), (m1, .inl (cI, 24, .inl rq)), (m2, .inl (cI, 24, .inl (fun jj => nI (wp jj)))), (m3, .inl (cJ, 24, .inr (.inl cu))), (m4, .inl (cJ, 24, .inr (.inl fi))), (m5, .inl (cI, 24, .inl (fun jj => nI (tr jj))))] sz) := by
  refine gx_met RX0 rfl (by decide) rfl (Nat.le_of_ble_eq_true rfl) ?_
  intro X hl hDx hAx C hQ hXP hsz hin
  subst hl; subst hDx
  rw [← hAx] at hQ
  refine g_lv [0] (lv' := [(0, .ref m0)]) rfl ?_
  refine g_aload_n C dX0_packOnFewest_0 1 rfl rfl ?_
  refine g_aload_n C dX0_packOnFewest_1 2 rfl rfl ?_
  refine g_get C iw_X0_packOnFewest_X0 0 rfl rfl 5 (by decide) (by decide +kernel) rfl rfl dX0_packOnFewest_2 5 rfl ?_
  refine g_iconst (v := nI 1) C dX0_packOnFewest_5 6 rfl (by decide) ?_
  refine g_iaddn C dX0_packOnFewest_6 7 rfl ?_
  refine g_put C (ty := .int) iw_X0_packOnFewest_X0 tyX0 tyX0_ok nmX0 0 rfl rfl 6 (by decide) (by decide +kernel) rfl rfl (by decide +kernel) rfl rfl (Nat.le_of_ble_eq_true rfl) dX0_packOnFewest_7 10 rfl (ws' := [(m0, .inr (4, [.ref m1, .ref m2, .ref m3, .ref m4, .ref m5, .int (nI np), .int (nI (np + 1)), .long rl])), (m1, .inl (cI, 24, .inl rq)), (m2, .inl (cI, 24, .inl (fun jj => nI (wp jj)))), (m3, .inl (cJ, 24, .inr (.inl cu))), (m4, .inl (cJ, 24, .inr (.inl fi))), (m5, .inl (cI, 24, .inl (fun jj => nI (tr jj))))]) rfl ?_
  refine g_aload_n C dX0_packOnFewest_10 11 rfl rfl ?_
  refine g_iconst (v := nI 0) C dX0_packOnFewest_11 12 rfl (by decide) ?_
  refine g_iconst (v := nI 0) C dX0_packOnFewest_12 13 rfl (by decide) ?_
  refine g_callVv (ci := 4) (q0 := 0) (As := [.int (nI 0), .int (nI 0)]) (rest := []) (wr := []) (ws' := fun (_ : Unit) => [(m0, .inr (4, [.ref m1, .ref m2, .ref m3, .ref m4, .ref m5, .int (nI np), .int (nI ((pfS np rl cu wp np 0 0 fi (tr, (np + 1), rq)).2.1)), .long rl])), (m1, .inl (cI, 24, .inl ((pfS np rl cu wp np 0 0 fi (tr, (np + 1), rq)).2.2))), (m2, .inl (cI, 24, .inl (fun jj => nI (wp jj)))), (m3, .inl (cJ, 24, .inr (.inl cu))), (m4, .inl (cJ, 24, .inr (.inl fi))), (m5, .inl (cI, 24, .inl (fun jj => nI (((pfS np rl cu wp np 0 0 fi (tr, (np + 1), rq)).1) jj))))]) C (fun sz => c_X0_placeFrom np _ _ cI cJ cB cZ sz m0 m1 m2 m3 m4 m5 np (np + 1) rl rq wp tr cu fi 0 0 (by omega) (by omega) (by omega) (by omega) hwp) gx_XP0 2 gX0_packOnFewest_X0_placeFrom rfl rfl rfl (by decide +kernel) ⟨by dsimp only; omega, by dsimp only; omega⟩ rfl rfl [0, 1, 2, 3, 4, 5] [] [0, 1, 2, 3, 4, 5] rfl (by decide) rfl (by decide) (by decide) (fun _ => rfl) (by decide) rfl rfl (Nat.le_of_ble_eq_true rfl) dX0_packOnFewest_13 ⟨Nat.le_of_ble_eq_true rfl, Nat.le_of_ble_eq_true rfl⟩ 16 rfl (fun _ _ => ?_)
  refine g_aload_n C dX0_packOnFewest_16 17 rfl rfl ?_
  refine g_get C iw_X0_packOnFewest_X0 0 rfl rfl 6 (by decide) (by decide +kernel) rfl rfl dX0_packOnFewest_17 20 rfl ?_
  exact g_iret C hQ (Nat.le_of_ble_eq_true rfl) (Nat.le_of_ble_eq_true rfl) dX0_packOnFewest_20 () rfl rfl

theorem iw_X0_pack_X0 : ∀ w ∈ wsX00, w ∈ wsX0_pack := by decide +kernel
set_option maxHeartbeats 4000000 in
set_option maxRecDepth 100000 in
theorem c_X0_pack_no (l : Launch) (D : va_G) (cI cJ cB cZ : ClassId) (sz : Nat) (m0 : Nat) (m1 : Nat) (m2 : Nat) (m3 : Nat) (m4 : Nat) (m5 : Nat) (np : Nat) (fw : Nat) (rl : Int64) (rq : Nat → Int32) (wp : Nat → Nat) (tr : Nat → Nat) (cu : Nat → Int64) (fi : Nat → Int64) (len : Int64) (hn : np ≤ 24) (hs : ¬ wfind (fun i => decide (len < cu i)) np = none) : Met l yX0_pack wsX0_pack ({ frames := 0, cells := 0, slots := 0, locals := 0 }) (va_Pc [.ref m0, .long len] (pW D (TY cI cJ cB cZ) [(m0, .inr (4, [.ref m1, .ref m2, .ref m3, .ref m4, .ref m5, .int (nI np), .int (nI fw), .long rl])), (m1, .inl (cI, 24, .inl rq)), (m2, .inl (cI, 24, .inl (fun jj => nI (wp jj)))), (m3, .inl (cJ, 24, .inr (.inl cu))), (m4, .inl (cJ, 24, .inr (.inl fi))), (m5, .inl (cI, 24, .inl (fun jj => nI (tr jj))))] (fun _ => True) sz)) (va_Qi (fun (rv : Int32) (_ : Unit) => rv = (-1)) (qW D (TY cI cJ cB cZ) (va_A [(m0, .inr (4, [.ref m1, .ref m2, .ref m3, .ref m4, .ref m5, .int (nI np), .int (nI fw), .long rl])), (m1, .inl (cI, 24, .inl rq)), (m2, .inl (cI, 24, .inl (fun jj => nI (wp jj)))), (m3, .inl (cJ, 24, .inr (.inl cu))), (m4, .inl (cJ, 24, .inr (.inl fi))), (m5, .inl (cI, 24, .inl (fun jj => nI (tr jj))))] sz) (fun _ => [(m0, .inr (4, [.ref m1, .ref m2, .ref m3, .ref m4, .ref m5, .int (nI np), .int (nI fw), .long len])), (m1, .inl (cI, 24, .inl rq)), (m2, .inl (cI, 24, .inl (fun jj => nI (wp jj)))), (m3, .inl (cJ, 24, .inr (.inl cu))), (m4, .inl (cJ, 24, .inr (.inl fi))), (m5, .inl (cI, 24, .inl (fun jj => nI (tr jj))))])) (va_A [(m0, .inr (4, [.ref m1, .ref m2, .ref m3, .ref m4, .ref m5, .int (nI np), .int (nI fw), .long rl])), (m1, .inl (cI, 24, .inl rq)), (m2, .inl (cI, 24, .inl (fun jj => nI (wp jj)))), (m3, .inl (cJ, 24, .inr (.inl cu))), (m4, .inl (cJ, 24, .inr (.inl fi))), (m5, .inl (cI, 24, .inl (fun jj => nI (tr jj))))] sz)) 0 0 (va_A [(m0, .inr (4, [.ref m1, .ref m2, .ref m3, .ref m4, .ref m5, .int (nI np), .int (nI fw), .long rl])), (m1, .inl (cI, 24, .inl rq)), (m2, .inl (cI, 24, .inl (fun jj => nI (wp jj)))), (m3, .inl (cJ, 24, .inr (.inl cu))), (m4, .inl (cJ, 24, .inr (.inl fi))), (m5, .inl (cI, 24, .inl (fun jj => nI (tr jj))))] sz) := by
  refine gx_met RX0 rfl (by decide) rfl (Nat.le_of_ble_eq_true rfl) ?_
  intro X hl hDx hAx C hQ hXP hsz hin
  subst hl; subst hDx
  rw [← hAx] at hQ
  refine g_lv [0, 1] (lv' := [(0, .ref m0), (1, .long len)]) rfl ?_
  refine g_aload_n C dX0_pack_0 1 rfl rfl ?_
  refine g_lload_n C dX0_pack_1 2 rfl rfl ?_
  refine g_put C (ty := .long) iw_X0_pack_X0 tyX0 tyX0_ok nmX0 0 rfl rfl 7 (by decide) (by decide +kernel) rfl rfl (by decide +kernel) rfl rfl (Nat.le_of_ble_eq_true rfl) dX0_pack_2 5 rfl (ws' := [(m0, .inr (4, [.ref m1, .ref m2, .ref m3, .ref m4, .ref m5, .int (nI np), .int (nI fw), .long len])), (m1, .inl (cI, 24, .inl rq)), (m2, .inl (cI, 24, .inl (fun jj => nI (wp jj)))), (m3, .inl (cJ, 24, .inr (.inl cu))), (m4, .inl (cJ, 24, .inr (.inl fi))), (m5, .inl (cI, 24, .inl (fun jj => nI (tr jj))))]) rfl ?_
  refine g_iconst (v := nI 0) C dX0_pack_5 6 rfl (by decide) ?_
  refine g_istore_n C dX0_pack_6 7 rfl (by decide) [1, 2, 0] (lv' := [(0, .ref m0), (1, .long len), (3, .int (nI 0))]) rfl ?_
  have hloop : ∀ (fuel i : Nat), i ≤ np → np + 1 ≤ i + fuel → (wfind (fun i => decide (len < cu i)) i = none) → gx X 0 0 [(m0, .inr (4, [.ref m1, .ref m2, .ref m3, .ref m4, .ref m5, .int (nI np), .int (nI fw), .long len])), (m1, .inl (cI, 24, .inl rq)), (m2, .inl (cI, 24, .inl (fun jj => nI (wp jj)))), (m3, .inl (cJ, 24, .inr (.inl cu))), (m4, .inl (cJ, 24, .inr (.inl fi))), (m5, .inl (cI, 24, .inl (fun jj => nI (tr jj))))] 7 [(0, .ref m0), (1, .long len), (3, .int (nI i))] [] := by
    intro fuel
    induction fuel with
    | zero => intro i h1 h2; exact absurd h2 (by omega)
    | succ fuel hloop_ih =>
      intro i hle hfu hno
      refine g_iload_n C dX0_pack_7 8 rfl rfl ?_
      refine g_aload_n C dX0_pack_8 9 rfl rfl ?_
      refine g_get C iw_X0_pack_X0 0 rfl rfl 5 (by decide) (by decide +kernel) rfl rfl dX0_pack_9 12 rfl ?_
      refine g_icmp_ge_n C dX0_pack_12 37 15 (by decide) rfl (by omega) (by omega) (fun c12 => ?_) (fun c12 => ?_)
      · exact absurd (by rw [show np = i by omega]; exact hno) hs
      · refine g_aload_n C dX0_pack_15 16 rfl rfl ?_
        refine g_get C iw_X0_pack_X0 0 rfl rfl 2 (by decide) (by decide +kernel) rfl rfl dX0_pack_16 19 rfl ?_
        refine g_iload_n C dX0_pack_19 20 rfl rfl ?_
        refine g_lald C 3 1 rfl rfl i rfl (by omega) (by decide) dX0_pack_20 21 rfl ?_
        refine g_aload_n C dX0_pack_21 22 rfl rfl ?_
        refine g_get C iw_X0_pack_X0 0 rfl rfl 7 (by decide) (by decide +kernel) rfl rfl dX0_pack_22 25 rfl ?_
        refine g_lc_le C dX0_pack_25 26 rfl dX0_pack_26 31 29 (by decide) rfl (fun c25 => ?_) (fun c25 => ?_)
        · refine g_iinc (v := nI (i + 1)) C dX0_pack_31 34 rfl rfl (nI_add i 1) (by decide) [1, 2, 0] (lv' := [(0, .ref m0), (1, .long len), (3, .int (nI (i + 1)))]) rfl ?_
          refine g_goto C dX0_pack_34 7 (by decide) ?_
          exact hloop_ih (i + 1) (by omega) (by omega) (wfind_next hno (by simp [Int64.not_lt.mpr c25]))
        · refine g_iconst (v := -1) C dX0_pack_29 30 rfl (by decide) ?_
          exact g_iret C hQ (Nat.le_of_ble_eq_true rfl) (Nat.le_of_ble_eq_true rfl) dX0_pack_30 () rfl rfl
  exact hloop (np + 1) 0 (by omega) (by omega) rfl

set_option maxHeartbeats 4000000 in
set_option maxRecDepth 100000 in
theorem c_X0_pack_few (l : Launch) (D : va_G) (cI cJ cB cZ : ClassId) (sz : Nat) (m0 : Nat) (m1 : Nat) (m2 : Nat) (m3 : Nat) (m4 : Nat) (m5 : Nat) (np : Nat) (fw : Nat) (rl : Int64) (rq : Nat → Int32) (wp : Nat → Nat) (tr : Nat → Nat) (cu : Nat → Int64) (fi : Nat → Int64) (len : Int64) (h8 : np ≤ 8) (hwp : ∀ k, k < np → wp k < 24) (hs : wfind (fun i => decide (len < cu i)) np = none) : Met l yX0_pack wsX0_pack ({ frames := 19, cells := 0, slots := 0, locals := 434 }) (va_Pc [.ref m0, .long len] (pW D (TY cI cJ cB cZ) [(m0, .inr (4, [.ref m1, .ref m2, .ref m3, .ref m4, .ref m5, .int (nI np), .int (nI fw), .long rl])), (m1, .inl (cI, 24, .inl rq)), (m2, .inl (cI, 24, .inl (fun jj => nI (wp jj)))), (m3, .inl (cJ, 24, .inr (.inl cu))), (m4, .inl (cJ, 24, .inr (.inl fi))), (m5, .inl (cI, 24, .inl (fun jj => nI (tr jj))))] (fun _ => True) sz)) (va_Qi (fun (rv : Int32) (_ : Unit) => rv = nI ((pfS np len cu wp np 0 0 fi (tr, np + 1, rq)).2.1)) (qW D (TY cI cJ cB cZ) (va_A [(m0, .inr (4, [.ref m1, .ref m2, .ref m3, .ref m4, .ref m5, .int (nI np), .int (nI fw), .long rl])), (m1, .inl (cI, 24, .inl rq)), (m2, .inl (cI, 24, .inl (fun jj => nI (wp jj)))), (m3, .inl (cJ, 24, .inr (.inl cu))), (m4, .inl (cJ, 24, .inr (.inl fi))), (m5, .inl (cI, 24, .inl (fun jj => nI (tr jj))))] sz) (fun _ => [(m0, .inr (4, [.ref m1, .ref m2, .ref m3, .ref m4, .ref m5, .int (nI np), .int (nI ((pfS np len cu wp np 0 0 fi (tr, np + 1, rq)).2.1)), .long len])), (m1, .inl (cI, 24, .inl ((pfS np len cu wp np 0 0 fi (tr, np + 1, rq)).2.2))), (m2, .inl (cI, 24, .inl (fun jj => nI (wp jj)))), (m3, .inl (cJ, 24, .inr (.inl cu))), (m4, .inl (cJ, 24, .inr (.inl fi))), (m5, .inl (cI, 24, .inl (fun jj => nI (((pfS np len cu wp np 0 0 fi (tr, np + 1, rq)).1) jj))))])) (va_A [(m0, .inr (4, [.ref m1, .ref m2, .ref m3, .ref m4, .ref m5, .int (nI np), .int (nI fw), .long rl])), (m1, .inl (cI, 24, .inl rq)), (m2, .inl (cI, 24, .inl (fun jj => nI (wp jj)))), (m3, .inl (cJ, 24, .inr (.inl cu))), (m4, .inl (cJ, 24, .inr (.inl fi))), (m5, .inl (cI, 24, .inl (fun jj => nI (tr jj))))] sz)) 0 0 (va_A [(m0, .inr (4, [.ref m1, .ref m2, .ref m3, .ref m4, .ref m5, .int (nI np), .int (nI fw), .long rl])), (m1, .inl (cI, 24, .inl rq)), (m2, .inl (cI, 24, .inl (fun jj => nI (wp jj)))), (m3, .inl (cJ, 24, .inr (.inl cu))), (m4, .inl (cJ, 24, .inr (.inl fi))), (m5, .inl (cI, 24, .inl (fun jj => nI (tr jj))))] sz) := by
  refine gx_met RX0 rfl (by decide) rfl (Nat.le_of_ble_eq_true rfl) ?_
  intro X hl hDx hAx C hQ hXP hsz hin
  subst hl; subst hDx
  rw [← hAx] at hQ
  refine g_lv [0, 1] (lv' := [(0, .ref m0), (1, .long len)]) rfl ?_
  refine g_aload_n C dX0_pack_0 1 rfl rfl ?_
  refine g_lload_n C dX0_pack_1 2 rfl rfl ?_
  refine g_put C (ty := .long) iw_X0_pack_X0 tyX0 tyX0_ok nmX0 0 rfl rfl 7 (by decide) (by decide +kernel) rfl rfl (by decide +kernel) rfl rfl (Nat.le_of_ble_eq_true rfl) dX0_pack_2 5 rfl (ws' := [(m0, .inr (4, [.ref m1, .ref m2, .ref m3, .ref m4, .ref m5, .int (nI np), .int (nI fw), .long len])), (m1, .inl (cI, 24, .inl rq)), (m2, .inl (cI, 24, .inl (fun jj => nI (wp jj)))), (m3, .inl (cJ, 24, .inr (.inl cu))), (m4, .inl (cJ, 24, .inr (.inl fi))), (m5, .inl (cI, 24, .inl (fun jj => nI (tr jj))))]) rfl ?_
  refine g_iconst (v := nI 0) C dX0_pack_5 6 rfl (by decide) ?_
  refine g_istore_n C dX0_pack_6 7 rfl (by decide) [1, 2, 0] (lv' := [(0, .ref m0), (1, .long len), (3, .int (nI 0))]) rfl ?_
  have hloop : ∀ (fuel i : Nat), i ≤ np → np + 1 ≤ i + fuel → (wfind (fun i => decide (len < cu i)) i = none) → gx X 0 0 [(m0, .inr (4, [.ref m1, .ref m2, .ref m3, .ref m4, .ref m5, .int (nI np), .int (nI fw), .long len])), (m1, .inl (cI, 24, .inl rq)), (m2, .inl (cI, 24, .inl (fun jj => nI (wp jj)))), (m3, .inl (cJ, 24, .inr (.inl cu))), (m4, .inl (cJ, 24, .inr (.inl fi))), (m5, .inl (cI, 24, .inl (fun jj => nI (tr jj))))] 7 [(0, .ref m0), (1, .long len), (3, .int (nI i))] [] := by
    intro fuel
    induction fuel with
    | zero => intro i h1 h2; exact absurd h2 (by omega)
    | succ fuel hloop_ih =>
      intro i hle hfu hno
      refine g_iload_n C dX0_pack_7 8 rfl rfl ?_
      refine g_aload_n C dX0_pack_8 9 rfl rfl ?_
      refine g_get C iw_X0_pack_X0 0 rfl rfl 5 (by decide) (by decide +kernel) rfl rfl dX0_pack_9 12 rfl ?_
      refine g_icmp_ge_n C dX0_pack_12 37 15 (by decide) rfl (by omega) (by omega) (fun c12 => ?_) (fun c12 => ?_)
      · have e_i : np = i := by omega
        subst e_i
        refine g_aload_n C dX0_pack_37 38 rfl rfl ?_
        refine g_get C iw_X0_pack_X0 0 rfl rfl 5 (by decide) (by decide +kernel) rfl rfl dX0_pack_38 41 rfl ?_
        refine g_bipush (v := nI 8) C dX0_pack_41 43 rfl (by decide) ?_
        refine g_icmp_gt_n C dX0_pack_43 53 46 (by decide) rfl (by omega) (by omega) (fun c43 => ?_) (fun c43 => ?_)
        · exact absurd c43 (by omega)
        · refine g_aload_n C dX0_pack_46 47 rfl rfl ?_
          refine g_callVi (ci := 4) (q0 := 0) (As := []) (rest := []) (wr := []) (ws' := fun (_ : Unit) => [(m0, .inr (4, [.ref m1, .ref m2, .ref m3, .ref m4, .ref m5, .int (nI np), .int (nI ((pfS np len cu wp np 0 0 fi (tr, np + 1, rq)).2.1)), .long len])), (m1, .inl (cI, 24, .inl ((pfS np len cu wp np 0 0 fi (tr, np + 1, rq)).2.2))), (m2, .inl (cI, 24, .inl (fun jj => nI (wp jj)))), (m3, .inl (cJ, 24, .inr (.inl cu))), (m4, .inl (cJ, 24, .inr (.inl fi))), (m5, .inl (cI, 24, .inl (fun jj => nI (((pfS np len cu wp np 0 0 fi (tr, np + 1, rq)).1) jj))))]) C (fun sz => c_X0_packOnFewest _ _ cI cJ cB cZ sz m0 m1 m2 m3 m4 m5 np fw len rq wp tr cu fi (by omega) hwp) gx_XP0 0 gX0_pack_X0_packOnFewest rfl rfl rfl (by decide +kernel) ⟨Nat.le_of_ble_eq_true rfl, Nat.le_of_ble_eq_true rfl⟩ rfl rfl [0, 1, 2, 3, 4, 5] [] [0, 1, 2, 3, 4, 5] rfl (by decide) rfl (by decide) (by decide) (fun _ => rfl) (by decide) rfl rfl (Nat.le_of_ble_eq_true rfl) dX0_pack_47 ⟨Nat.le_of_ble_eq_true rfl, Nat.le_of_ble_eq_true rfl⟩ 50 rfl (eqk ?_)
          refine g_goto C dX0_pack_50 57 (by decide) ?_
          exact g_iret C hQ (Nat.le_of_ble_eq_true rfl) (Nat.le_of_ble_eq_true rfl) dX0_pack_57 () rfl rfl
      · refine g_aload_n C dX0_pack_15 16 rfl rfl ?_
        refine g_get C iw_X0_pack_X0 0 rfl rfl 2 (by decide) (by decide +kernel) rfl rfl dX0_pack_16 19 rfl ?_
        refine g_iload_n C dX0_pack_19 20 rfl rfl ?_
        refine g_lald C 3 1 rfl rfl i rfl (by omega) (by decide) dX0_pack_20 21 rfl ?_
        refine g_aload_n C dX0_pack_21 22 rfl rfl ?_
        refine g_get C iw_X0_pack_X0 0 rfl rfl 7 (by decide) (by decide +kernel) rfl rfl dX0_pack_22 25 rfl ?_
        refine g_lc_le C dX0_pack_25 26 rfl dX0_pack_26 31 29 (by decide) rfl (fun c25 => ?_) (fun c25 => ?_)
        · refine g_iinc (v := nI (i + 1)) C dX0_pack_31 34 rfl rfl (nI_add i 1) (by decide) [1, 2, 0] (lv' := [(0, .ref m0), (1, .long len), (3, .int (nI (i + 1)))]) rfl ?_
          refine g_goto C dX0_pack_34 7 (by decide) ?_
          exact hloop_ih (i + 1) (by omega) (by omega) (wfind_next hno (by simp [Int64.not_lt.mpr c25]))
        · exact absurd hs (by rw [wfind_at hno (by simp [Int64.not_le.mp c25]) (by omega)]; exact fun h => by cases h)
  exact hloop (np + 1) 0 (by omega) (by omega) rfl

set_option maxHeartbeats 4000000 in
set_option maxRecDepth 100000 in
theorem c_X0_pack_many (l : Launch) (D : va_G) (cI cJ cB cZ : ClassId) (sz : Nat) (m0 : Nat) (m1 : Nat) (m2 : Nat) (m3 : Nat) (m4 : Nat) (m5 : Nat) (np : Nat) (fw : Nat) (rl : Int64) (rq : Nat → Int32) (wp : Nat → Nat) (tr : Nat → Nat) (cu : Nat → Int64) (fi : Nat → Int64) (len : Int64) (hn : np ≤ 24) (h8 : 8 < np) (hwp : ∀ k, k < np → wp k < 24) (hs : wfind (fun i => decide (len < cu i)) np = none) : Met l yX0_pack wsX0_pack ({ frames := 3, cells := 0, slots := 0, locals := 68 }) (va_Pc [.ref m0, .long len] (pW D (TY cI cJ cB cZ) [(m0, .inr (4, [.ref m1, .ref m2, .ref m3, .ref m4, .ref m5, .int (nI np), .int (nI fw), .long rl])), (m1, .inl (cI, 24, .inl rq)), (m2, .inl (cI, 24, .inl (fun jj => nI (wp jj)))), (m3, .inl (cJ, 24, .inr (.inl cu))), (m4, .inl (cJ, 24, .inr (.inl fi))), (m5, .inl (cI, 24, .inl (fun jj => nI (tr jj))))] (fun _ => True) sz)) (va_Qi (fun (rv : Int32) (_ : Unit) => rv = nI ((plf len wp cu np (0, rq, fi) np).1)) (qW D (TY cI cJ cB cZ) (va_A [(m0, .inr (4, [.ref m1, .ref m2, .ref m3, .ref m4, .ref m5, .int (nI np), .int (nI fw), .long rl])), (m1, .inl (cI, 24, .inl rq)), (m2, .inl (cI, 24, .inl (fun jj => nI (wp jj)))), (m3, .inl (cJ, 24, .inr (.inl cu))), (m4, .inl (cJ, 24, .inr (.inl fi))), (m5, .inl (cI, 24, .inl (fun jj => nI (tr jj))))] sz) (fun _ => [(m0, .inr (4, [.ref m1, .ref m2, .ref m3, .ref m4, .ref m5, .int (nI np), .int (nI fw), .long len])), (m1, .inl (cI, 24, .inl ((plf len wp cu np (0, rq, fi) np).2.1))), (m2, .inl (cI, 24, .inl (fun jj => nI (wp jj)))), (m3, .inl (cJ, 24, .inr (.inl cu))), (m4, .inl (cJ, 24, .inr (.inl ((plf len wp cu np (0, rq, fi) np).2.2)))), (m5, .inl (cI, 24, .inl (fun jj => nI (tr jj))))])) (va_A [(m0, .inr (4, [.ref m1, .ref m2, .ref m3, .ref m4, .ref m5, .int (nI np), .int (nI fw), .long rl])), (m1, .inl (cI, 24, .inl rq)), (m2, .inl (cI, 24, .inl (fun jj => nI (wp jj)))), (m3, .inl (cJ, 24, .inr (.inl cu))), (m4, .inl (cJ, 24, .inr (.inl fi))), (m5, .inl (cI, 24, .inl (fun jj => nI (tr jj))))] sz)) 0 0 (va_A [(m0, .inr (4, [.ref m1, .ref m2, .ref m3, .ref m4, .ref m5, .int (nI np), .int (nI fw), .long rl])), (m1, .inl (cI, 24, .inl rq)), (m2, .inl (cI, 24, .inl (fun jj => nI (wp jj)))), (m3, .inl (cJ, 24, .inr (.inl cu))), (m4, .inl (cJ, 24, .inr (.inl fi))), (m5, .inl (cI, 24, .inl (fun jj => nI (tr jj))))] sz) := by
  refine gx_met RX0 rfl (by decide) rfl (Nat.le_of_ble_eq_true rfl) ?_
  intro X hl hDx hAx C hQ hXP hsz hin
  subst hl; subst hDx
  rw [← hAx] at hQ
  refine g_lv [0, 1] (lv' := [(0, .ref m0), (1, .long len)]) rfl ?_
  refine g_aload_n C dX0_pack_0 1 rfl rfl ?_
  refine g_lload_n C dX0_pack_1 2 rfl rfl ?_
  refine g_put C (ty := .long) iw_X0_pack_X0 tyX0 tyX0_ok nmX0 0 rfl rfl 7 (by decide) (by decide +kernel) rfl rfl (by decide +kernel) rfl rfl (Nat.le_of_ble_eq_true rfl) dX0_pack_2 5 rfl (ws' := [(m0, .inr (4, [.ref m1, .ref m2, .ref m3, .ref m4, .ref m5, .int (nI np), .int (nI fw), .long len])), (m1, .inl (cI, 24, .inl rq)), (m2, .inl (cI, 24, .inl (fun jj => nI (wp jj)))), (m3, .inl (cJ, 24, .inr (.inl cu))), (m4, .inl (cJ, 24, .inr (.inl fi))), (m5, .inl (cI, 24, .inl (fun jj => nI (tr jj))))]) rfl ?_
  refine g_iconst (v := nI 0) C dX0_pack_5 6 rfl (by decide) ?_
  refine g_istore_n C dX0_pack_6 7 rfl (by decide) [1, 2, 0] (lv' := [(0, .ref m0), (1, .long len), (3, .int (nI 0))]) rfl ?_
  have hloop : ∀ (fuel i : Nat), i ≤ np → np + 1 ≤ i + fuel → (wfind (fun i => decide (len < cu i)) i = none) → gx X 0 0 [(m0, .inr (4, [.ref m1, .ref m2, .ref m3, .ref m4, .ref m5, .int (nI np), .int (nI fw), .long len])), (m1, .inl (cI, 24, .inl rq)), (m2, .inl (cI, 24, .inl (fun jj => nI (wp jj)))), (m3, .inl (cJ, 24, .inr (.inl cu))), (m4, .inl (cJ, 24, .inr (.inl fi))), (m5, .inl (cI, 24, .inl (fun jj => nI (tr jj))))] 7 [(0, .ref m0), (1, .long len), (3, .int (nI i))] [] := by
    intro fuel
    induction fuel with
    | zero => intro i h1 h2; exact absurd h2 (by omega)
    | succ fuel hloop_ih =>
      intro i hle hfu hno
      refine g_iload_n C dX0_pack_7 8 rfl rfl ?_
      refine g_aload_n C dX0_pack_8 9 rfl rfl ?_
      refine g_get C iw_X0_pack_X0 0 rfl rfl 5 (by decide) (by decide +kernel) rfl rfl dX0_pack_9 12 rfl ?_
      refine g_icmp_ge_n C dX0_pack_12 37 15 (by decide) rfl (by omega) (by omega) (fun c12 => ?_) (fun c12 => ?_)
      · have e_i : np = i := by omega
        subst e_i
        refine g_aload_n C dX0_pack_37 38 rfl rfl ?_
        refine g_get C iw_X0_pack_X0 0 rfl rfl 5 (by decide) (by decide +kernel) rfl rfl dX0_pack_38 41 rfl ?_
        refine g_bipush (v := nI 8) C dX0_pack_41 43 rfl (by decide) ?_
        refine g_icmp_gt_n C dX0_pack_43 53 46 (by decide) rfl (by omega) (by omega) (fun c43 => ?_) (fun c43 => ?_)
        · refine g_aload_n C dX0_pack_53 54 rfl rfl ?_
          refine g_callVi (ci := 4) (q0 := 0) (As := []) (rest := []) (wr := [(m5, .inl (cI, 24, .inl (fun jj => nI (tr jj))))]) (ws' := fun (_ : Unit) => [(m0, .inr (4, [.ref m1, .ref m2, .ref m3, .ref m4, .ref m5, .int (nI np), .int (nI fw), .long len])), (m1, .inl (cI, 24, .inl ((plf len wp cu np (0, rq, fi) np).2.1))), (m2, .inl (cI, 24, .inl (fun jj => nI (wp jj)))), (m3, .inl (cJ, 24, .inr (.inl cu))), (m4, .inl (cJ, 24, .inr (.inl ((plf len wp cu np (0, rq, fi) np).2.2)))), (m5, .inl (cI, 24, .inl (fun jj => nI (tr jj))))]) C (fun sz => c_X0_packLongestFirst _ _ cI cJ cB cZ sz m0 m1 m2 m3 m4 m5 np fw len rq wp cu fi (by omega) hwp) gx_XP0 0 gX0_pack_X0_packLongestFirst rfl rfl rfl (by decide +kernel) ⟨Nat.le_of_ble_eq_true rfl, Nat.le_of_ble_eq_true rfl⟩ rfl rfl [0, 1, 2, 3, 4] [5] [1, 2, 3, 4, 5, 0] rfl (by decide) rfl (by decide) (by decide) (fun _ => rfl) (by decide) rfl rfl (Nat.le_of_ble_eq_true rfl) dX0_pack_54 ⟨Nat.le_of_ble_eq_true rfl, Nat.le_of_ble_eq_true rfl⟩ 57 rfl (eqk ?_)
          exact g_iret C hQ (Nat.le_of_ble_eq_true rfl) (Nat.le_of_ble_eq_true rfl) dX0_pack_57 () rfl rfl
        · exact absurd c43 (by omega)
      · refine g_aload_n C dX0_pack_15 16 rfl rfl ?_
        refine g_get C iw_X0_pack_X0 0 rfl rfl 2 (by decide) (by decide +kernel) rfl rfl dX0_pack_16 19 rfl ?_
        refine g_iload_n C dX0_pack_19 20 rfl rfl ?_
        refine g_lald C 3 1 rfl rfl i rfl (by omega) (by decide) dX0_pack_20 21 rfl ?_
        refine g_aload_n C dX0_pack_21 22 rfl rfl ?_
        refine g_get C iw_X0_pack_X0 0 rfl rfl 7 (by decide) (by decide +kernel) rfl rfl dX0_pack_22 25 rfl ?_
        refine g_lc_le C dX0_pack_25 26 rfl dX0_pack_26 31 29 (by decide) rfl (fun c25 => ?_) (fun c25 => ?_)
        · refine g_iinc (v := nI (i + 1)) C dX0_pack_31 34 rfl rfl (nI_add i 1) (by decide) [1, 2, 0] (lv' := [(0, .ref m0), (1, .long len), (3, .int (nI (i + 1)))]) rfl ?_
          refine g_goto C dX0_pack_34 7 (by decide) ?_
          exact hloop_ih (i + 1) (by omega) (by omega) (wfind_next hno (by simp [Int64.not_lt.mpr c25]))
        · exact absurd hs (by rw [wfind_at hno (by simp [Int64.not_le.mp c25]) (by omega)]; exact fun h => by cases h)
  exact hloop (np + 1) 0 (by omega) (by omega) rfl

theorem iw_X0_init_X0 : ∀ w ∈ wsX00, w ∈ wsX0_init := by decide +kernel
set_option maxHeartbeats 4000000 in
set_option maxRecDepth 100000 in
theorem c_X0_init (l : Launch) (D : va_G) (cI cJ cB cZ : ClassId) (sz : Nat) (m0 : Nat)  : Met l yX0_init wsX0_init ({ frames := 1, cells := 5, slots := 120, locals := 23 }) (va_Pc [.ref m0] (pW D (TY cI cJ cB cZ) [(m0, .inr (4, [.null, .null, .null, .null, .null, .int 0, .int 0, .long 0]))] (fun _ => True) sz)) (va_Qv (fun (u : Nat × Nat × Nat × Nat × Nat) => True) (qW D (TY cI cJ cB cZ) (va_A [(m0, .inr (4, [.null, .null, .null, .null, .null, .int 0, .int 0, .long 0]))] sz) (fun u => [(m0, .inr (4, [.ref u.1, .ref u.2.1, .ref u.2.2.1, .ref u.2.2.2.1, .ref u.2.2.2.2, .int (nI 0), .int (nI 0), .long 0])), (u.1, .inl (cI, 24, .inl (fll (fun _ => 0) (-1) 24))), (u.2.1, .inl (cI, 24, .inl (fun jj => nI ((fun _ => 0) jj)))), (u.2.2.1, .inl (cJ, 24, .inr (.inl (fun _ => 0)))), (u.2.2.2.1, .inl (cJ, 24, .inr (.inl (fun _ => 0)))), (u.2.2.2.2, .inl (cI, 24, .inl (fun jj => nI ((fun _ => 0) jj))))])) (va_A [(m0, .inr (4, [.null, .null, .null, .null, .null, .int 0, .int 0, .long 0]))] sz)) 5 120 (va_A [(m0, .inr (4, [.null, .null, .null, .null, .null, .int 0, .int 0, .long 0]))] sz) := by
  refine gx_met RX0 rfl (by decide) rfl (Nat.le_of_ble_eq_true rfl) ?_
  intro X hl hDx hAx C hQ hXP hsz hin
  subst hl; subst hDx
  rw [← hAx] at hQ
  refine g_lv [0] (lv' := [(0, .ref m0)]) rfl ?_
  refine g_aload_n C dX0_init_0 1 rfl rfl ?_
  refine g_objInit C (by decide +kernel) (by decide +kernel) (by first | exact List.mem_of_getElem? (i := 3) rfl | exact List.mem_of_getElem? (i := 2) rfl | exact List.mem_of_getElem? (i := 4) rfl | exact List.mem_of_getElem? (i := 5) rfl) dX0_init_1 4 rfl (Nat.le_of_ble_eq_true rfl) (Nat.le_of_ble_eq_true rfl) ?_
  refine g_aload_n C dX0_init_4 5 rfl rfl ?_
  refine g_bipush (v := nI 24) C dX0_init_5 7 rfl (by decide) ?_
  refine g_newa_int C 0 rfl (by decide) (by decide +kernel) dX0_init_7 9 rfl (Nat.le_of_ble_eq_true rfl) (Nat.le_of_ble_eq_true rfl) (fun q7 => ?_)
  refine g_ws (ws' := [(m0, .inr (4, [.null, .null, .null, .null, .null, .int 0, .int 0, .long 0])), (q7, .inl (cI, 24, .inl (fun _ => 0)))]) rfl ?_
  refine g_putF C (hI := hin rfl) (ty := .array .int) iw_X0_init_X0 tyX0 tyX0_ok nmX0 0 rfl rfl 0 (by decide) (by decide +kernel) rfl rfl rfl (by decide +kernel) rfl rfl (Nat.le_of_ble_eq_true rfl) dX0_init_9 12 rfl (ws' := [(m0, .inr (4, [.ref q7, .null, .null, .null, .null, .int 0, .int 0, .long 0])), (q7, .inl (cI, 24, .inl (fun _ => 0)))]) rfl ?_
  refine g_aload_n C dX0_init_12 13 rfl rfl ?_
  refine g_bipush (v := nI 24) C dX0_init_13 15 rfl (by decide) ?_
  refine g_newa_int C 0 rfl (by decide) (by decide +kernel) dX0_init_15 17 rfl (Nat.le_of_ble_eq_true rfl) (Nat.le_of_ble_eq_true rfl) (fun q15 => ?_)
  refine g_ws (ws' := [(m0, .inr (4, [.ref q7, .null, .null, .null, .null, .int 0, .int 0, .long 0])), (q7, .inl (cI, 24, .inl (fun _ => 0))), (q15, .inl (cI, 24, .inl (fun _ => 0)))]) rfl ?_
  refine g_putF C (hI := hin rfl) (ty := .array .int) iw_X0_init_X0 tyX0 tyX0_ok nmX0 0 rfl rfl 1 (by decide) (by decide +kernel) rfl rfl rfl (by decide +kernel) rfl rfl (Nat.le_of_ble_eq_true rfl) dX0_init_17 20 rfl (ws' := [(m0, .inr (4, [.ref q7, .ref q15, .null, .null, .null, .int 0, .int 0, .long 0])), (q7, .inl (cI, 24, .inl (fun _ => 0))), (q15, .inl (cI, 24, .inl (fun _ => 0)))]) rfl ?_
  refine g_aload_n C dX0_init_20 21 rfl rfl ?_
  refine g_bipush (v := nI 24) C dX0_init_21 23 rfl (by decide) ?_
  refine g_newa_long C 1 rfl (by decide) (by decide +kernel) dX0_init_23 25 rfl (Nat.le_of_ble_eq_true rfl) (Nat.le_of_ble_eq_true rfl) (fun q23 => ?_)
  refine g_ws (ws' := [(m0, .inr (4, [.ref q7, .ref q15, .null, .null, .null, .int 0, .int 0, .long 0])), (q7, .inl (cI, 24, .inl (fun _ => 0))), (q15, .inl (cI, 24, .inl (fun _ => 0))), (q23, .inl (cJ, 24, .inr (.inl (fun _ => 0))))]) rfl ?_
  refine g_putF C (hI := hin rfl) (ty := .array .long) iw_X0_init_X0 tyX0 tyX0_ok nmX0 0 rfl rfl 2 (by decide) (by decide +kernel) rfl rfl rfl (by decide +kernel) rfl rfl (Nat.le_of_ble_eq_true rfl) dX0_init_25 28 rfl (ws' := [(m0, .inr (4, [.ref q7, .ref q15, .ref q23, .null, .null, .int 0, .int 0, .long 0])), (q7, .inl (cI, 24, .inl (fun _ => 0))), (q15, .inl (cI, 24, .inl (fun _ => 0))), (q23, .inl (cJ, 24, .inr (.inl (fun _ => 0))))]) rfl ?_
  refine g_aload_n C dX0_init_28 29 rfl rfl ?_
  refine g_bipush (v := nI 24) C dX0_init_29 31 rfl (by decide) ?_
  refine g_newa_long C 1 rfl (by decide) (by decide +kernel) dX0_init_31 33 rfl (Nat.le_of_ble_eq_true rfl) (Nat.le_of_ble_eq_true rfl) (fun q31 => ?_)
  refine g_ws (ws' := [(m0, .inr (4, [.ref q7, .ref q15, .ref q23, .null, .null, .int 0, .int 0, .long 0])), (q7, .inl (cI, 24, .inl (fun _ => 0))), (q15, .inl (cI, 24, .inl (fun _ => 0))), (q23, .inl (cJ, 24, .inr (.inl (fun _ => 0)))), (q31, .inl (cJ, 24, .inr (.inl (fun _ => 0))))]) rfl ?_
  refine g_putF C (hI := hin rfl) (ty := .array .long) iw_X0_init_X0 tyX0 tyX0_ok nmX0 0 rfl rfl 3 (by decide) (by decide +kernel) rfl rfl rfl (by decide +kernel) rfl rfl (Nat.le_of_ble_eq_true rfl) dX0_init_33 36 rfl (ws' := [(m0, .inr (4, [.ref q7, .ref q15, .ref q23, .ref q31, .null, .int 0, .int 0, .long 0])), (q7, .inl (cI, 24, .inl (fun _ => 0))), (q15, .inl (cI, 24, .inl (fun _ => 0))), (q23, .inl (cJ, 24, .inr (.inl (fun _ => 0)))), (q31, .inl (cJ, 24, .inr (.inl (fun _ => 0))))]) rfl ?_
  refine g_aload_n C dX0_init_36 37 rfl rfl ?_
  refine g_bipush (v := nI 24) C dX0_init_37 39 rfl (by decide) ?_
  refine g_newa_int C 0 rfl (by decide) (by decide +kernel) dX0_init_39 41 rfl (Nat.le_of_ble_eq_true rfl) (Nat.le_of_ble_eq_true rfl) (fun q39 => ?_)
  refine g_ws (ws' := [(m0, .inr (4, [.ref q7, .ref q15, .ref q23, .ref q31, .null, .int 0, .int 0, .long 0])), (q7, .inl (cI, 24, .inl (fun _ => 0))), (q15, .inl (cI, 24, .inl (fun _ => 0))), (q23, .inl (cJ, 24, .inr (.inl (fun _ => 0)))), (q31, .inl (cJ, 24, .inr (.inl (fun _ => 0)))), (q39, .inl (cI, 24, .inl (fun _ => 0)))]) rfl ?_
  refine g_putF C (hI := hin rfl) (ty := .array .int) iw_X0_init_X0 tyX0 tyX0_ok nmX0 0 rfl rfl 4 (by decide) (by decide +kernel) rfl rfl rfl (by decide +kernel) rfl rfl (Nat.le_of_ble_eq_true rfl) dX0_init_41 44 rfl (ws' := [(m0, .inr (4, [.ref q7, .ref q15, .ref q23, .ref q31, .ref q39, .int 0, .int 0, .long 0])), (q7, .inl (cI, 24, .inl (fun _ => 0))), (q15, .inl (cI, 24, .inl (fun _ => 0))), (q23, .inl (cJ, 24, .inr (.inl (fun _ => 0)))), (q31, .inl (cJ, 24, .inr (.inl (fun _ => 0)))), (q39, .inl (cI, 24, .inl (fun _ => 0)))]) rfl ?_
  refine g_aload_n C dX0_init_44 45 rfl rfl ?_
  refine g_iconst (v := nI 0) C dX0_init_45 46 rfl (by decide) ?_
  refine g_put C (ty := .int) iw_X0_init_X0 tyX0 tyX0_ok nmX0 0 rfl rfl 5 (by decide) (by decide +kernel) rfl rfl (by decide +kernel) rfl rfl (Nat.le_of_ble_eq_true rfl) dX0_init_46 49 rfl (ws' := [(m0, .inr (4, [.ref q7, .ref q15, .ref q23, .ref q31, .ref q39, .int (nI 0), .int 0, .long 0])), (q7, .inl (cI, 24, .inl (fun _ => 0))), (q15, .inl (cI, 24, .inl (fun _ => 0))), (q23, .inl (cJ, 24, .inr (.inl (fun _ => 0)))), (q31, .inl (cJ, 24, .inr (.inl (fun _ => 0)))), (q39, .inl (cI, 24, .inl (fun _ => 0)))]) rfl ?_
  refine g_aload_n C dX0_init_49 50 rfl rfl ?_
  refine g_iconst (v := nI 0) C dX0_init_50 51 rfl (by decide) ?_
  refine g_put C (ty := .int) iw_X0_init_X0 tyX0 tyX0_ok nmX0 0 rfl rfl 6 (by decide) (by decide +kernel) rfl rfl (by decide +kernel) rfl rfl (Nat.le_of_ble_eq_true rfl) dX0_init_51 54 rfl (ws' := [(m0, .inr (4, [.ref q7, .ref q15, .ref q23, .ref q31, .ref q39, .int (nI 0), .int (nI 0), .long 0])), (q7, .inl (cI, 24, .inl (fun _ => 0))), (q15, .inl (cI, 24, .inl (fun _ => 0))), (q23, .inl (cJ, 24, .inr (.inl (fun _ => 0)))), (q31, .inl (cJ, 24, .inr (.inl (fun _ => 0)))), (q39, .inl (cI, 24, .inl (fun _ => 0)))]) rfl ?_
  refine g_aload_n C dX0_init_54 55 rfl rfl ?_
  refine g_lconst (v := 0) C dX0_init_55 56 rfl (by decide) ?_
  refine g_put C (ty := .long) iw_X0_init_X0 tyX0 tyX0_ok nmX0 0 rfl rfl 7 (by decide) (by decide +kernel) rfl rfl (by decide +kernel) rfl rfl (Nat.le_of_ble_eq_true rfl) dX0_init_56 59 rfl (ws' := [(m0, .inr (4, [.ref q7, .ref q15, .ref q23, .ref q31, .ref q39, .int (nI 0), .int (nI 0), .long 0])), (q7, .inl (cI, 24, .inl (fun _ => 0))), (q15, .inl (cI, 24, .inl (fun _ => 0))), (q23, .inl (cJ, 24, .inr (.inl (fun _ => 0)))), (q31, .inl (cJ, 24, .inr (.inl (fun _ => 0)))), (q39, .inl (cI, 24, .inl (fun _ => 0)))]) rfl ?_
  refine g_aload_n C dX0_init_59 60 rfl rfl ?_
  refine g_get C iw_X0_init_X0 0 rfl rfl 0 (by decide) (by decide +kernel) rfl rfl dX0_init_60 63 rfl ?_
  refine g_iconst (v := -1) C dX0_init_63 64 rfl (by decide) ?_
  refine g_callSv (As := [.ref q7, .int (-1)]) (rest := []) (wr := [(m0, .inr (4, [.ref q7, .ref q15, .ref q23, .ref q31, .ref q39, .int (nI 0), .int (nI 0), .long 0])), (q15, .inl (cI, 24, .inl (fun _ => 0))), (q23, .inl (cJ, 24, .inr (.inl (fun _ => 0)))), (q31, .inl (cJ, 24, .inr (.inl (fun _ => 0)))), (q39, .inl (cI, 24, .inl (fun _ => 0)))]) (ws' := fun (_ : Unit) => [(m0, .inr (4, [.ref q7, .ref q15, .ref q23, .ref q31, .ref q39, .int (nI 0), .int (nI 0), .long 0])), (q7, .inl (cI, 24, .inl (fll (fun _ => 0) (-1) 24))), (q15, .inl (cI, 24, .inl (fun _ => 0))), (q23, .inl (cJ, 24, .inr (.inl (fun _ => 0)))), (q31, .inl (cJ, 24, .inr (.inl (fun _ => 0)))), (q39, .inl (cI, 24, .inl (fun _ => 0)))]) C (fun sz => c_J7_fill_53178 _ _ cI cJ cB cZ sz q7 (fun _ => 0) (-1) ) gx_XP0 2 gX0_init_J7_fill_53178 rfl rfl rfl (by decide +kernel) ⟨Nat.le_of_ble_eq_true rfl, Nat.le_of_ble_eq_true rfl⟩ [1] [0, 2, 3, 4, 5] [0, 5, 1, 2, 3, 4] rfl (by decide) rfl (by decide) (by decide) (fun _ => rfl) (by decide) rfl rfl (Nat.le_of_ble_eq_true rfl) dX0_init_64 ⟨Nat.le_of_ble_eq_true rfl, Nat.le_of_ble_eq_true rfl⟩ 67 rfl (fun _ _ => ?_)
  exact g_vret C hQ (Nat.le_of_ble_eq_true rfl) (Nat.le_of_ble_eq_true rfl) dX0_init_67 (q7, q15, q23, q31, q39) trivial (by first | (dsimp only; done) | rfl)
