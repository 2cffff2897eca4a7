set_option maxHeartbeats 4000000 in
set_option maxRecDepth 100000 in
theorem c_J7_fill_53178 (l : Launch) (D : va_G) (cI cJ cB cZ : ClassId) (sz : Nat) (a : Nat) (f : Nat → Int32) (v : Int32)  : Met l yJ7_fill_53178 wsJ7_fill_53178 ({ frames := 0, cells := 0, slots := 0, locals := 0 }) (va_Pc [.ref a, .int v] (pW D (TY cI cJ cB cZ) [(a, .inl (cI, 24, .inl f))] (fun _ => True) sz)) (va_Qv (fun (_ : Unit) => True) (qW D (TY cI cJ cB cZ) (va_A [(a, .inl (cI, 24, .inl f))] sz) (fun _ => [(a, .inl (cI, 24, .inl (fll f v 24)))])) (va_A [(a, .inl (cI, 24, .inl f))] sz)) 0 0 (va_A [(a, .inl (cI, 24, .inl f))] sz) := by
  refine gx_met RJ7 rfl (by decide) rfl (Nat.le_of_ble_eq_true rfl) ?_
  intro X hl hDx hAx C hQ hXP hsz hin
  subst hl; subst hDx
  rw [← hAx] at hQ
  refine g_lv [0, 1] (lv' := [(0, .ref a), (1, .int v)]) rfl ?_
  refine g_iconst (v := nI 0) C dJ7_fill_53178_0 1 rfl (by decide) ?_
  refine g_istore_n C dJ7_fill_53178_1 2 rfl (by decide) [1, 2, 0] (lv' := [(0, .ref a), (1, .int v), (2, .int (nI 0))]) rfl ?_
  refine g_aload_n C dJ7_fill_53178_2 3 rfl rfl ?_
  refine g_alen C 0 0 rfl rfl (n := 24) rfl dJ7_fill_53178_3 4 rfl ?_
  refine g_istore_n C dJ7_fill_53178_4 5 rfl (by decide) [1, 2, 3, 0] (lv' := [(0, .ref a), (1, .int v), (2, .int (nI 0)), (3, .int (nI 24))]) rfl ?_
  have hloop : ∀ (fuel i : Nat), i ≤ 24 → 24 + 1 ≤ i + fuel → gx X 0 0 [(a, .inl (cI, 24, .inl (fll f v i)))] 5 [(0, .ref a), (1, .int v), (2, .int (nI i)), (3, .int (nI 24))] [] := by
    intro fuel
    induction fuel with
    | zero => intro i h1 h2; exact absurd h2 (by omega)
    | succ fuel hloop_ih =>
      intro i hle hfu
      refine g_iload_n C dJ7_fill_53178_5 6 rfl rfl ?_
      refine g_iload_n C dJ7_fill_53178_6 7 rfl rfl ?_
      refine g_icmp_ge_n C dJ7_fill_53178_7 20 10 (by decide) rfl (by omega) (by omega) (fun c7 => ?_) (fun c7 => ?_)
      · have e_i : 24 = i := by omega
        subst e_i
        exact g_vret C hQ (Nat.le_of_ble_eq_true rfl) (Nat.le_of_ble_eq_true rfl) dJ7_fill_53178_20 () trivial rfl
      · refine g_aload_n C dJ7_fill_53178_10 11 rfl rfl ?_
        refine g_iload_n C dJ7_fill_53178_11 12 rfl rfl ?_
        refine g_iload_n C dJ7_fill_53178_12 13 rfl rfl ?_
        refine g_iast C 0 0 rfl rfl i rfl (by omega) (by decide) dJ7_fill_53178_13 14 rfl (ws' := [(a, .inl (cI, 24, .inl (upd (fll f v i) i v)))]) rfl ?_
        refine g_iinc (v := nI (i + 1)) C dJ7_fill_53178_14 17 rfl rfl (nI_add i 1) (by decide) [1, 2, 0, 3] (lv' := [(0, .ref a), (1, .int v), (2, .int (nI (i + 1))), (3, .int (nI 24))]) rfl ?_
        refine g_goto C dJ7_fill_53178_17 5 (by decide) ?_
        rw [show upd (fll f v i) i v = fll f v (i + 1) from rfl]
        exact hloop_ih (i + 1) (by omega) (by omega)
  exact hloop (24 + 1) 0 (by omega) (by omega)

set_option maxHeartbeats 4000000 in
set_option maxRecDepth 100000 in
theorem c_J7_fill_d0a16 (l : Launch) (D : va_G) (cI cJ cB cZ : ClassId) (sz : Nat) (a : Nat) (f : Nat → Int64) (v : Int64)  : Met l yJ7_fill_d0a16 wsJ7_fill_d0a16 ({ frames := 0, cells := 0, slots := 0, locals := 0 }) (va_Pc [.ref a, .long v] (pW D (TY cI cJ cB cZ) [(a, .inl (cJ, 24, .inr (.inl f)))] (fun _ => True) sz)) (va_Qv (fun (_ : Unit) => True) (qW D (TY cI cJ cB cZ) (va_A [(a, .inl (cJ, 24, .inr (.inl f)))] sz) (fun _ => [(a, .inl (cJ, 24, .inr (.inl (fllL f v 24))))])) (va_A [(a, .inl (cJ, 24, .inr (.inl f)))] sz)) 0 0 (va_A [(a, .inl (cJ, 24, .inr (.inl f)))] sz) := by
  refine gx_met RJ7 rfl (by decide) rfl (Nat.le_of_ble_eq_true rfl) ?_
  intro X hl hDx hAx C hQ hXP hsz hin
  subst hl; subst hDx
  rw [← hAx] at hQ
  refine g_lv [0, 1] (lv' := [(0, .ref a), (1, .long v)]) rfl ?_
  refine g_iconst (v := nI 0) C dJ7_fill_d0a16_0 1 rfl (by decide) ?_
  refine g_istore_n C dJ7_fill_d0a16_1 2 rfl (by decide) [1, 2, 0] (lv' := [(0, .ref a), (1, .long v), (3, .int (nI 0))]) rfl ?_
  refine g_aload_n C dJ7_fill_d0a16_2 3 rfl rfl ?_
  refine g_alen C 0 1 rfl rfl (n := 24) rfl dJ7_fill_d0a16_3 4 rfl ?_
  refine g_istore C dJ7_fill_d0a16_4 6 rfl (by decide) [1, 2, 3, 0] (lv' := [(0, .ref a), (1, .long v), (3, .int (nI 0)), (4, .int (nI 24))]) rfl ?_
  have hloop : ∀ (fuel i : Nat), i ≤ 24 → 24 + 1 ≤ i + fuel → gx X 0 0 [(a, .inl (cJ, 24, .inr (.inl (fllL f v i))))] 6 [(0, .ref a), (1, .long v), (3, .int (nI i)), (4, .int (nI 24))] [] := by
    intro fuel
    induction fuel with
    | zero => intro i h1 h2; exact absurd h2 (by omega)
    | succ fuel hloop_ih =>
      intro i hle hfu
      refine g_iload_n C dJ7_fill_d0a16_6 7 rfl rfl ?_
      refine g_iload C dJ7_fill_d0a16_7 9 rfl rfl ?_
      refine g_icmp_ge_n C dJ7_fill_d0a16_9 22 12 (by decide) rfl (by omega) (by omega) (fun c9 => ?_) (fun c9 => ?_)
      · have e_i : 24 = i := by omega
        subst e_i
        exact g_vret C hQ (Nat.le_of_ble_eq_true rfl) (Nat.le_of_ble_eq_true rfl) dJ7_fill_d0a16_22 () trivial rfl
      · refine g_aload_n C dJ7_fill_d0a16_12 13 rfl rfl ?_
        refine g_iload_n C dJ7_fill_d0a16_13 14 rfl rfl ?_
        refine g_lload_n C dJ7_fill_d0a16_14 15 rfl rfl ?_
        refine g_last C 0 1 rfl rfl i rfl (by omega) (by decide) dJ7_fill_d0a16_15 16 rfl (ws' := [(a, .inl (cJ, 24, .inr (.inl (vp_updL (fllL f v i) i v))))]) rfl ?_
        refine g_iinc (v := nI (i + 1)) C dJ7_fill_d0a16_16 19 rfl rfl (nI_add i 1) (by decide) [1, 2, 0, 3] (lv' := [(0, .ref a), (1, .long v), (3, .int (nI (i + 1))), (4, .int (nI 24))]) rfl ?_
        refine g_goto C dJ7_fill_d0a16_19 6 (by decide) ?_
        rw [show vp_updL (fllL f v i) i v = fllL f v (i + 1) from rfl]
        exact hloop_ih (i + 1) (by omega) (by omega)
  exact hloop (24 + 1) 0 (by omega) (by omega)

theorem iw_X0_numberOf_X0 : ∀ w ∈ wsX00, w ∈ wsX0_numberOf := by decide +kernel
set_option maxHeartbeats 4000000 in
set_option maxRecDepth 100000 in
theorem c_X0_numberOf (l : Launch) (D : va_G) (cI cJ cB cZ : ClassId) (sz : Nat) (m0 : Nat) (m1 : Nat) (m2 : Nat) (m3 : Nat) (m4 : Nat) (m5 : Nat) (np : Nat) (fw : Nat) (rl : Int64) (rq : Nat → Int32) (a : Nat) (ha : a < 24) : Met l yX0_numberOf wsX0_numberOf ({ frames := 0, cells := 0, slots := 0, locals := 0 }) (va_Pc [.ref m0, .int (nI a)] (pW D (TY cI cJ cB cZ) [(m0, .inr (4, [.ref m1, .ref m2, .ref m3, .ref m4, .ref m5, .int (nI np), .int (nI fw), .long rl])), (m1, .inl (cI, 24, .inl rq))] (fun _ => True) sz)) (va_Qi (fun (rv : Int32) (_ : Unit) => rv = rq a) (qW D (TY cI cJ cB cZ) (va_A [(m0, .inr (4, [.ref m1, .ref m2, .ref m3, .ref m4, .ref m5, .int (nI np), .int (nI fw), .long rl])), (m1, .inl (cI, 24, .inl rq))] sz) (fun _ => [(m0, .inr (4, [.ref m1, .ref m2, .ref m3, .ref m4, .ref m5, .int (nI np), .int (nI fw), .long rl])), (m1, .inl (cI, 24, .inl rq))])) (va_A [(m0, .inr (4, [.ref m1, .ref m2, .ref m3, .ref m4, .ref m5, .int (nI np), .int (nI fw), .long rl])), (m1, .inl (cI, 24, .inl rq))] sz)) 0 0 (va_A [(m0, .inr (4, [.ref m1, .ref m2, .ref m3, .ref m4, .ref m5, .int (nI np), .int (nI fw), .long rl])), (m1, .inl (cI, 24, .inl rq))] sz) := by
  refine gx_met RX0 rfl (by decide) rfl (Nat.le_of_ble_eq_true rfl) ?_
  intro X hl hDx hAx C hQ hXP hsz hin
  subst hl; subst hDx
  rw [← hAx] at hQ
  refine g_lv [0, 1] (lv' := [(0, .ref m0), (1, .int (nI a))]) rfl ?_
  refine g_aload_n C dX0_numberOf_0 1 rfl rfl ?_
  refine g_get C iw_X0_numberOf_X0 0 rfl rfl 0 (by decide) (by decide +kernel) rfl rfl dX0_numberOf_1 4 rfl ?_
  refine g_iload_n C dX0_numberOf_4 5 rfl rfl ?_
  refine g_iald C 1 0 rfl rfl a rfl (by omega) (by decide) dX0_numberOf_5 6 rfl ?_
  exact g_iret C hQ (Nat.le_of_ble_eq_true rfl) (Nat.le_of_ble_eq_true rfl) dX0_numberOf_6 () rfl rfl

theorem iw_X0_begin_X0 : ∀ w ∈ wsX00, w ∈ wsX0_begin := by decide +kernel
set_option maxHeartbeats 4000000 in
set_option maxRecDepth 100000 in
theorem c_X0_begin (l : Launch) (D : va_G) (cI cJ cB cZ : ClassId) (sz : Nat) (m0 : Nat) (m1 : Nat) (m2 : Nat) (m3 : Nat) (m4 : Nat) (m5 : Nat) (np : Nat) (fw : Nat) (rl : Int64) (rq : Nat → Int32) (fi : Nat → Int64)  : Met l yX0_begin wsX0_begin ({ frames := 1, cells := 0, slots := 0, locals := 24 }) (va_Pc [.ref m0] (pW D (TY cI cJ cB cZ) [(m0, .inr (4, [.ref m1, .ref m2, .ref m3, .ref m4, .ref m5, .int (nI np), .int (nI fw), .long rl])), (m1, .inl (cI, 24, .inl rq)), (m4, .inl (cJ, 24, .inr (.inl fi)))] (fun _ => True) sz)) (va_Qv (fun (_ : Unit) => True) (qW D (TY cI cJ cB cZ) (va_A [(m0, .inr (4, [.ref m1, .ref m2, .ref m3, .ref m4, .ref m5, .int (nI np), .int (nI fw), .long rl])), (m1, .inl (cI, 24, .inl rq)), (m4, .inl (cJ, 24, .inr (.inl fi)))] sz) (fun _ => [(m0, .inr (4, [.ref m1, .ref m2, .ref m3, .ref m4, .ref m5, .int (nI 0), .int (nI fw), .long rl])), (m1, .inl (cI, 24, .inl (fll rq (-1) 24))), (m4, .inl (cJ, 24, .inr (.inl (fllL fi 0 24))))])) (va_A [(m0, .inr (4, [.ref m1, .ref m2, .ref m3, .ref m4, .ref m5, .int (nI np), .int (nI fw), .long rl])), (m1, .inl (cI, 24, .inl rq)), (m4, .inl (cJ, 24, .inr (.inl fi)))] sz)) 0 0 (va_A [(m0, .inr (4, [.ref m1, .ref m2, .ref m3, .ref m4, .ref m5, .int (nI np), .int (nI fw), .long rl])), (m1, .inl (cI, 24, .inl rq)), (m4, .inl (cJ, 24, .inr (.inl fi)))] sz) := by
  refine gx_met RX0 rfl (by decide) rfl (Nat.le_of_ble_eq_true rfl) ?_
  intro X hl hDx hAx C hQ hXP hsz hin
  subst hl; subst hDx
  rw [← hAx] at hQ
  refine g_lv [0] (lv' := [(0, .ref m0)]) rfl ?_
  refine g_aload_n C dX0_begin_0 1 rfl rfl ?_
  refine g_get C iw_X0_begin_X0 0 rfl rfl 0 (by decide) (by decide +kernel) rfl rfl dX0_begin_1 4 rfl ?_
  refine g_iconst (v := -1) C dX0_begin_4 5 rfl (by decide) ?_
  refine g_callSv (As := [.ref m1, .int (-1)]) (rest := []) (wr := [(m0, .inr (4, [.ref m1, .ref m2, .ref m3, .ref m4, .ref m5, .int (nI np), .int (nI fw), .long rl])), (m4, .inl (cJ, 24, .inr (.inl fi)))]) (ws' := fun (_ : Unit) => [(m0, .inr (4, [.ref m1, .ref m2, .ref m3, .ref m4, .ref m5, .int (nI np), .int (nI fw), .long rl])), (m1, .inl (cI, 24, .inl (fll rq (-1) 24))), (m4, .inl (cJ, 24, .inr (.inl fi)))]) C (fun sz => c_J7_fill_53178 _ _ cI cJ cB cZ sz m1 rq (-1) ) gx_XP0 2 gX0_begin_J7_fill_53178 rfl rfl rfl (by decide +kernel) ⟨Nat.le_of_ble_eq_true rfl, Nat.le_of_ble_eq_true rfl⟩ [1] [0, 2] [0, 2, 1] rfl (by decide) rfl (by decide) (by decide) (fun _ => rfl) (by decide) rfl rfl (Nat.le_of_ble_eq_true rfl) dX0_begin_5 ⟨Nat.le_of_ble_eq_true rfl, Nat.le_of_ble_eq_true rfl⟩ 8 rfl (fun _ _ => ?_)
  refine g_aload_n C dX0_begin_8 9 rfl rfl ?_
  refine g_get C iw_X0_begin_X0 0 rfl rfl 3 (by decide) (by decide +kernel) rfl rfl dX0_begin_9 12 rfl ?_
  refine g_lconst (v := 0) C dX0_begin_12 13 rfl (by decide) ?_
  refine g_callSv (As := [.ref m4, .long 0]) (rest := []) (wr := [(m0, .inr (4, [.ref m1, .ref m2, .ref m3, .ref m4, .ref m5, .int (nI np), .int (nI fw), .long rl])), (m1, .inl (cI, 24, .inl (fll rq (-1) 24)))]) (ws' := fun (_ : Unit) => [(m0, .inr (4, [.ref m1, .ref m2, .ref m3, .ref m4, .ref m5, .int (nI np), .int (nI fw), .long rl])), (m1, .inl (cI, 24, .inl (fll rq (-1) 24))), (m4, .inl (cJ, 24, .inr (.inl (fllL fi 0 24))))]) C (fun sz => c_J7_fill_d0a16 _ _ cI cJ cB cZ sz m4 fi 0 ) gx_XP0 2 gX0_begin_J7_fill_d0a16 rfl rfl rfl (by decide +kernel) ⟨Nat.le_of_ble_eq_true rfl, Nat.le_of_ble_eq_true rfl⟩ [2] [0, 1] [0, 1, 2] rfl (by decide) rfl (by decide) (by decide) (fun _ => rfl) (by decide) rfl rfl (Nat.le_of_ble_eq_true rfl) dX0_begin_13 ⟨Nat.le_of_ble_eq_true rfl, Nat.le_of_ble_eq_true rfl⟩ 16 rfl (fun _ _ => ?_)
  refine g_aload_n C dX0_begin_16 17 rfl rfl ?_
  refine g_iconst (v := nI 0) C dX0_begin_17 18 rfl (by decide) ?_
  refine g_put C (ty := .int) iw_X0_begin_X0 tyX0 tyX0_ok nmX0 0 rfl rfl 5 (by decide) (by decide +kernel) rfl rfl (by decide +kernel) rfl rfl (Nat.le_of_ble_eq_true rfl) dX0_begin_18 21 rfl (ws' := [(m0, .inr (4, [.ref m1, .ref m2, .ref m3, .ref m4, .ref m5, .int (nI 0), .int (nI fw), .long rl])), (m1, .inl (cI, 24, .inl (fll rq (-1) 24))), (m4, .inl (cJ, 24, .inr (.inl (fllL fi 0 24))))]) rfl ?_
  exact g_vret C hQ (Nat.le_of_ble_eq_true rfl) (Nat.le_of_ble_eq_true rfl) dX0_begin_21 () trivial rfl

theorem iw_X0_addPiece_X0 : ∀ w ∈ wsX00, w ∈ wsX0_addPiece := by decide +kernel
set_option maxHeartbeats 4000000 in
set_option maxRecDepth 100000 in
theorem c_X0_addPiece (l : Launch) (D : va_G) (cI cJ cB cZ : ClassId) (sz : Nat) (m0 : Nat) (m1 : Nat) (m2 : Nat) (m3 : Nat) (m4 : Nat) (m5 : Nat) (np : Nat) (fw : Nat) (rl : Int64) (wp : Nat → Nat) (cu : Nat → Int64) (w : Nat) (c : Int64) (hn : np < 24) : Met l yX0_addPiece wsX0_addPiece ({ frames := 0, cells := 0, slots := 0, locals := 0 }) (va_Pc [.ref m0, .int (nI w), .long c] (pW D (TY cI cJ cB cZ) [(m0, .inr (4, [.ref m1, .ref m2, .ref m3, .ref m4, .ref m5, .int (nI np), .int (nI fw), .long rl])), (m2, .inl (cI, 24, .inl (fun jj => nI (wp jj)))), (m3, .inl (cJ, 24, .inr (.inl cu)))] (fun _ => True) sz)) (va_Qv (fun (_ : Unit) => True) (qW D (TY cI cJ cB cZ) (va_A [(m0, .inr (4, [.ref m1, .ref m2, .ref m3, .ref m4, .ref m5, .int (nI np), .int (nI fw), .long rl])), (m2, .inl (cI, 24, .inl (fun jj => nI (wp jj)))), (m3, .inl (cJ, 24, .inr (.inl cu)))] sz) (fun _ => [(m0, .inr (4, [.ref m1, .ref m2, .ref m3, .ref m4, .ref m5, .int (nI (np + 1)), .int (nI fw), .long rl])), (m2, .inl (cI, 24, .inl (fun jj => nI ((updN wp np w) jj)))), (m3, .inl (cJ, 24, .inr (.inl (vp_updL cu np c))))])) (va_A [(m0, .inr (4, [.ref m1, .ref m2, .ref m3, .ref m4, .ref m5, .int (nI np), .int (nI fw), .long rl])), (m2, .inl (cI, 24, .inl (fun jj => nI (wp jj)))), (m3, .inl (cJ, 24, .inr (.inl cu)))] sz)) 0 0 (va_A [(m0, .inr (4, [.ref m1, .ref m2, .ref m3, .ref m4, .ref m5, .int (nI np), .int (nI fw), .long rl])), (m2, .inl (cI, 24, .inl (fun jj => nI (wp jj)))), (m3, .inl (cJ, 24, .inr (.inl cu)))] sz) := by
  refine gx_met RX0 rfl (by decide) rfl (Nat.le_of_ble_eq_true rfl) ?_
  intro X hl hDx hAx C hQ hXP hsz hin
  subst hl; subst hDx
  rw [← hAx] at hQ
  refine g_lv [0, 1, 2] (lv' := [(0, .ref m0), (1, .int (nI w)), (2, .long c)]) rfl ?_
  refine g_aload_n C dX0_addPiece_0 1 rfl rfl ?_
  refine g_get C iw_X0_addPiece_X0 0 rfl rfl 5 (by decide) (by decide +kernel) rfl rfl dX0_addPiece_1 4 rfl ?_
  refine g_bipush (v := nI 24) C dX0_addPiece_4 6 rfl (by decide) ?_
  refine g_icmp_lt_n C dX0_addPiece_6 10 9 (by decide) rfl (by omega) (by omega) (fun c6 => ?_) (fun c6 => ?_)
  · refine g_aload_n C dX0_addPiece_10 11 rfl rfl ?_
    refine g_get C iw_X0_addPiece_X0 0 rfl rfl 1 (by decide) (by decide +kernel) rfl rfl dX0_addPiece_11 14 rfl ?_
    refine g_aload_n C dX0_addPiece_14 15 rfl rfl ?_
    refine g_get C iw_X0_addPiece_X0 0 rfl rfl 5 (by decide) (by decide +kernel) rfl rfl dX0_addPiece_15 18 rfl ?_
    refine g_iload_n C dX0_addPiece_18 19 rfl rfl ?_
    refine g_iast C 1 0 rfl rfl np rfl (by omega) (by decide) dX0_addPiece_19 20 rfl (ws' := [(m0, .inr (4, [.ref m1, .ref m2, .ref m3, .ref m4, .ref m5, .int (nI np), .int (nI fw), .long rl])), (m2, .inl (cI, 24, .inl (fun jj => nI ((updN wp np w) jj)))), (m3, .inl (cJ, 24, .inr (.inl cu)))]) (by rw [upd_nI]; rfl) ?_
    refine g_aload_n C dX0_addPiece_20 21 rfl rfl ?_
    refine g_get C iw_X0_addPiece_X0 0 rfl rfl 2 (by decide) (by decide +kernel) rfl rfl dX0_addPiece_21 24 rfl ?_
    refine g_aload_n C dX0_addPiece_24 25 rfl rfl ?_
    refine g_get C iw_X0_addPiece_X0 0 rfl rfl 5 (by decide) (by decide +kernel) rfl rfl dX0_addPiece_25 28 rfl ?_
    refine g_lload_n C dX0_addPiece_28 29 rfl rfl ?_
    refine g_last C 2 1 rfl rfl np rfl (by omega) (by decide) dX0_addPiece_29 30 rfl (ws' := [(m0, .inr (4, [.ref m1, .ref m2, .ref m3, .ref m4, .ref m5, .int (nI np), .int (nI fw), .long rl])), (m2, .inl (cI, 24, .inl (fun jj => nI ((updN wp np w) jj)))), (m3, .inl (cJ, 24, .inr (.inl (vp_updL cu np c))))]) rfl ?_
    refine g_aload_n C dX0_addPiece_30 31 rfl rfl ?_
    refine g_dup C dX0_addPiece_31 32 rfl rfl ?_
    refine g_get C iw_X0_addPiece_X0 0 rfl rfl 5 (by decide) (by decide +kernel) rfl rfl dX0_addPiece_32 35 rfl ?_
    refine g_iconst (v := nI 1) C dX0_addPiece_35 36 rfl (by decide) ?_
    refine g_iaddn C dX0_addPiece_36 37 rfl ?_
    refine g_put C (ty := .int) iw_X0_addPiece_X0 tyX0 tyX0_ok nmX0 0 rfl rfl 5 (by decide) (by decide +kernel) rfl rfl (by decide +kernel) rfl rfl (Nat.le_of_ble_eq_true rfl) dX0_addPiece_37 40 rfl (ws' := [(m0, .inr (4, [.ref m1, .ref m2, .ref m3, .ref m4, .ref m5, .int (nI (np + 1)), .int (nI fw), .long rl])), (m2, .inl (cI, 24, .inl (fun jj => nI ((updN wp np w) jj)))), (m3, .inl (cJ, 24, .inr (.inl (vp_updL cu np c))))]) rfl ?_
    exact g_vret C hQ (Nat.le_of_ble_eq_true rfl) (Nat.le_of_ble_eq_true rfl) dX0_addPiece_40 () trivial rfl
  · exact absurd c6 (by omega)

theorem iw_X0_hasRoom_X0 : ∀ w ∈ wsX00, w ∈ wsX0_hasRoom := by decide +kernel
set_option maxHeartbeats 4000000 in
set_option maxRecDepth 100000 in
theorem c_X0_hasRoom (l : Launch) (D : va_G) (cI cJ cB cZ : ClassId) (sz : Nat) (m0 : Nat) (m1 : Nat) (m2 : Nat) (m3 : Nat) (m4 : Nat) (m5 : Nat) (np : Nat) (fw : Nat) (rl : Int64) (cu : Nat → Int64) (fi : Nat → Int64) (r : Nat) (p : Nat) (hr : r < 24) (hp : p < 24) : Met l yX0_hasRoom wsX0_hasRoom ({ frames := 0, cells := 0, slots := 0, locals := 0 }) (va_Pc [.ref m0, .int (nI r), .int (nI p)] (pW D (TY cI cJ cB cZ) [(m0, .inr (4, [.ref m1, .ref m2, .ref m3, .ref m4, .ref m5, .int (nI np), .int (nI fw), .long rl])), (m3, .inl (cJ, 24, .inr (.inl cu))), (m4, .inl (cJ, 24, .inr (.inl fi)))] (fun _ => True) sz)) (va_Qi (fun (rv : Int32) (_ : Unit) => rv = bI (rmr rl fi cu p r)) (qW D (TY cI cJ cB cZ) (va_A [(m0, .inr (4, [.ref m1, .ref m2, .ref m3, .ref m4, .ref m5, .int (nI np), .int (nI fw), .long rl])), (m3, .inl (cJ, 24, .inr (.inl cu))), (m4, .inl (cJ, 24, .inr (.inl fi)))] sz) (fun _ => [(m0, .inr (4, [.ref m1, .ref m2, .ref m3, .ref m4, .ref m5, .int (nI np), .int (nI fw), .long rl])), (m3, .inl (cJ, 24, .inr (.inl cu))), (m4, .inl (cJ, 24, .inr (.inl fi)))])) (va_A [(m0, .inr (4, [.ref m1, .ref m2, .ref m3, .ref m4, .ref m5, .int (nI np), .int (nI fw), .long rl])), (m3, .inl (cJ, 24, .inr (.inl cu))), (m4, .inl (cJ, 24, .inr (.inl fi)))] sz)) 0 0 (va_A [(m0, .inr (4, [.ref m1, .ref m2, .ref m3, .ref m4, .ref m5, .int (nI np), .int (nI fw), .long rl])), (m3, .inl (cJ, 24, .inr (.inl cu))), (m4, .inl (cJ, 24, .inr (.inl fi)))] sz) := by
  refine gx_met RX0 rfl (by decide) rfl (Nat.le_of_ble_eq_true rfl) ?_
  intro X hl hDx hAx C hQ hXP hsz hin
  subst hl; subst hDx
  rw [← hAx] at hQ
  refine g_lv [0, 1, 2] (lv' := [(0, .ref m0), (1, .int (nI r)), (2, .int (nI p))]) rfl ?_
  refine g_aload_n C dX0_hasRoom_0 1 rfl rfl ?_
  refine g_get C iw_X0_hasRoom_X0 0 rfl rfl 3 (by decide) (by decide +kernel) rfl rfl dX0_hasRoom_1 4 rfl ?_
  refine g_iload_n C dX0_hasRoom_4 5 rfl rfl ?_
  refine g_lald C 2 1 rfl rfl r rfl (by omega) (by decide) dX0_hasRoom_5 6 rfl ?_
  refine g_aload_n C dX0_hasRoom_6 7 rfl rfl ?_
  refine g_get C iw_X0_hasRoom_X0 0 rfl rfl 2 (by decide) (by decide +kernel) rfl rfl dX0_hasRoom_7 10 rfl ?_
  refine g_iload_n C dX0_hasRoom_10 11 rfl rfl ?_
  refine g_lald C 1 1 rfl rfl p rfl (by omega) (by decide) dX0_hasRoom_11 12 rfl ?_
  refine g_ladd C dX0_hasRoom_12 13 rfl ?_
  refine g_aload_n C dX0_hasRoom_13 14 rfl rfl ?_
  refine g_get C iw_X0_hasRoom_X0 0 rfl rfl 7 (by decide) (by decide +kernel) rfl rfl dX0_hasRoom_14 17 rfl ?_
  refine g_lc_gt C dX0_hasRoom_17 18 rfl dX0_hasRoom_18 25 21 (by decide) rfl (fun c17 => ?_) (fun c17 => ?_)
  · refine g_iconst (v := nI 0) C dX0_hasRoom_25 26 rfl (by decide) ?_
    exact g_zret C hQ (Nat.le_of_ble_eq_true rfl) (Nat.le_of_ble_eq_true rfl) dX0_hasRoom_26 rfl () (by simp [bI, nI_one, nI_0, rmr, c17]) rfl
  · refine g_iconst (v := nI 1) C dX0_hasRoom_21 22 rfl (by decide) ?_
    refine g_goto C dX0_hasRoom_22 26 (by decide) ?_
    exact g_zret C hQ (Nat.le_of_ble_eq_true rfl) (Nat.le_of_ble_eq_true rfl) dX0_hasRoom_26 rfl () (by simp [bI, nI_one, nI_0, rmr, c17]) rfl

set_option maxHeartbeats 4000000 in
set_option maxRecDepth 100000 in
theorem c_X0_lowestWithRoom (l : Launch) (D : va_G) (cI cJ cB cZ : ClassId) (sz : Nat) (m0 : Nat) (m1 : Nat) (m2 : Nat) (m3 : Nat) (m4 : Nat) (m5 : Nat) (np : Nat) (fw : Nat) (rl : Int64) (cu : Nat → Int64) (fi : Nat → Int64) (p : Nat) (hp : p < 24) : Met l yX0_lowestWithRoom wsX0_lowestWithRoom ({ frames := 1, cells := 0, slots := 0, locals := 22 }) (va_Pc [.ref m0, .int (nI p)] (pW D (TY cI cJ cB cZ) [(m0, .inr (4, [.ref m1, .ref m2, .ref m3, .ref m4, .ref m5, .int (nI np), .int (nI fw), .long rl])), (m3, .inl (cJ, 24, .inr (.inl cu))), (m4, .inl (cJ, 24, .inr (.inl fi)))] (fun _ => True) sz)) (va_Qi (fun (rv : Int32) (_ : Unit) => rv = oI (wfind (rmr rl fi cu p) 24)) (qW D (TY cI cJ cB cZ) (va_A [(m0, .inr (4, [.ref m1, .ref m2, .ref m3, .ref m4, .ref m5, .int (nI np), .int (nI fw), .long rl])), (m3, .inl (cJ, 24, .inr (.inl cu))), (m4, .inl (cJ, 24, .inr (.inl fi)))] sz) (fun _ => [(m0, .inr (4, [.ref m1, .ref m2, .ref m3, .ref m4, .ref m5, .int (nI np), .int (nI fw), .long rl])), (m3, .inl (cJ, 24, .inr (.inl cu))), (m4, .inl (cJ, 24, .inr (.inl fi)))])) (va_A [(m0, .inr (4, [.ref m1, .ref m2, .ref m3, .ref m4, .ref m5, .int (nI np), .int (nI fw), .long rl])), (m3, .inl (cJ, 24, .inr (.inl cu))), (m4, .inl (cJ, 24, .inr (.inl fi)))] sz)) 0 0 (va_A [(m0, .inr (4, [.ref m1, .ref m2, .ref m3, .ref m4, .ref m5, .int (nI np), .int (nI fw), .long rl])), (m3, .inl (cJ, 24, .inr (.inl cu))), (m4, .inl (cJ, 24, .inr (.inl fi)))] sz) := by
  refine gx_met RX0 rfl (by decide) rfl (Nat.le_of_ble_eq_true rfl) ?_
  intro X hl hDx hAx C hQ hXP hsz hin
  subst hl; subst hDx
  rw [← hAx] at hQ
  refine g_lv [0, 1] (lv' := [(0, .ref m0), (1, .int (nI p))]) rfl ?_
  refine g_iconst (v := nI 0) C dX0_lowestWithRoom_0 1 rfl (by decide) ?_
  refine g_istore_n C dX0_lowestWithRoom_1 2 rfl (by decide) [1, 2, 0] (lv' := [(0, .ref m0), (1, .int (nI p)), (2, .int (nI 0))]) rfl ?_
  have hloop : ∀ (fuel i : Nat), i ≤ 24 → 24 + 1 ≤ i + fuel → (wfind (rmr rl fi cu p) i = none) → gx X 0 0 [(m0, .inr (4, [.ref m1, .ref m2, .ref m3, .ref m4, .ref m5, .int (nI np), .int (nI fw), .long rl])), (m3, .inl (cJ, 24, .inr (.inl cu))), (m4, .inl (cJ, 24, .inr (.inl fi)))] 2 [(0, .ref m0), (1, .int (nI p)), (2, .int (nI i))] [] := by
    intro fuel
    induction fuel with
    | zero => intro i h1 h2; exact absurd h2 (by omega)
    | succ fuel hloop_ih =>
      intro i hle hfu hno
      refine g_iload_n C dX0_lowestWithRoom_2 3 rfl rfl ?_
      refine g_bipush (v := nI 24) C dX0_lowestWithRoom_3 5 rfl (by decide) ?_
      refine g_icmp_ge_n C dX0_lowestWithRoom_5 25 8 (by decide) rfl (by omega) (by omega) (fun c5 => ?_) (fun c5 => ?_)
      · have e_i : 24 = i := by omega
        subst e_i
        refine g_iconst (v := -1) C dX0_lowestWithRoom_25 26 rfl (by decide) ?_
        exact g_iret C hQ (Nat.le_of_ble_eq_true rfl) (Nat.le_of_ble_eq_true rfl) dX0_lowestWithRoom_26 () (by rw [hno]; rfl) rfl
      · refine g_aload_n C dX0_lowestWithRoom_8 9 rfl rfl ?_
        refine g_iload_n C dX0_lowestWithRoom_9 10 rfl rfl ?_
        refine g_iload_n C dX0_lowestWithRoom_10 11 rfl rfl ?_
        refine g_callVi (ci := 4) (q0 := 0) (As := [.int (nI i), .int (nI p)]) (rest := []) (wr := []) (ws' := fun (_ : Unit) => [(m0, .inr (4, [.ref m1, .ref m2, .ref m3, .ref m4, .ref m5, .int (nI np), .int (nI fw), .long rl])), (m3, .inl (cJ, 24, .inr (.inl cu))), (m4, .inl (cJ, 24, .inr (.inl fi)))]) C (fun sz => c_X0_hasRoom _ _ cI cJ cB cZ sz m0 m1 m2 m3 m4 m5 np fw rl cu fi i p (by omega) (by omega)) gx_XP0 2 gX0_lowestWithRoom_X0_hasRoom rfl rfl rfl (by decide +kernel) ⟨Nat.le_of_ble_eq_true rfl, Nat.le_of_ble_eq_true rfl⟩ rfl rfl [0, 1, 2] [] [0, 1, 2] rfl (by decide) rfl (by decide) (by decide) (fun _ => rfl) (by decide) rfl rfl (Nat.le_of_ble_eq_true rfl) dX0_lowestWithRoom_11 ⟨Nat.le_of_ble_eq_true rfl, Nat.le_of_ble_eq_true rfl⟩ 14 rfl (eqk ?_)
        refine g_if_eq_b C dX0_lowestWithRoom_14 19 17 (by decide) rfl (fun c14 => ?_) (fun c14 => ?_)
        · refine g_iinc (v := nI (i + 1)) C dX0_lowestWithRoom_19 22 rfl rfl (nI_add i 1) (by decide) [1, 2, 0] (lv' := [(0, .ref m0), (1, .int (nI p)), (2, .int (nI (i + 1)))]) rfl ?_
          refine g_goto C dX0_lowestWithRoom_22 2 (by decide) ?_
          exact hloop_ih (i + 1) (by omega) (by omega) (wfind_next hno c14)
        · refine g_iload_n C dX0_lowestWithRoom_17 18 rfl rfl ?_
          exact g_iret C hQ (Nat.le_of_ble_eq_true rfl) (Nat.le_of_ble_eq_true rfl) dX0_lowestWithRoom_18 () (by rw [wfind_at hno c14 (by omega)]; rfl) rfl
  exact hloop (24 + 1) 0 (by omega) (by omega) rfl

theorem iw_X0_longestLeft_X0 : ∀ w ∈ wsX00, w ∈ wsX0_longestLeft := by decide +kernel
set_option maxHeartbeats 4000000 in
set_option maxRecDepth 100000 in
theorem c_X0_longestLeft (l : Launch) (D : va_G) (cI cJ cB cZ : ClassId) (sz : Nat) (m0 : Nat) (m1 : Nat) (m2 : Nat) (m3 : Nat) (m4 : Nat) (m5 : Nat) (np : Nat) (fw : Nat) (rl : Int64) (rq : Nat → Int32) (wp : Nat → Nat) (cu : Nat → Int64) (hn : np ≤ 24) (hwp : ∀ k, k < np → wp k < 24) : Met l yX0_longestLeft wsX0_longestLeft ({ frames := 0, cells := 0, slots := 0, locals := 0 }) (va_Pc [.ref m0] (pW D (TY cI cJ cB cZ) [(m0, .inr (4, [.ref m1, .ref m2, .ref m3, .ref m4, .ref m5, .int (nI np), .int (nI fw), .long rl])), (m1, .inl (cI, 24, .inl rq)), (m2, .inl (cI, 24, .inl (fun jj => nI (wp jj)))), (m3, .inl (cJ, 24, .inr (.inl cu)))] (fun _ => True) sz)) (va_Qi (fun (rv : Int32) (_ : Unit) => rv = oI (lgl rq wp cu np)) (qW D (TY cI cJ cB cZ) (va_A [(m0, .inr (4, [.ref m1, .ref m2, .ref m3, .ref m4, .ref m5, .int (nI np), .int (nI fw), .long rl])), (m1, .inl (cI, 24, .inl rq)), (m2, .inl (cI, 24, .inl (fun jj => nI (wp jj)))), (m3, .inl (cJ, 24, .inr (.inl cu)))] sz) (fun _ => [(m0, .inr (4, [.ref m1, .ref m2, .ref m3, .ref m4, .ref m5, .int (nI np), .int (nI fw), .long rl])), (m1, .inl (cI, 24, .inl rq)), (m2, .inl (cI, 24, .inl (fun jj => nI (wp jj)))), (m3, .inl (cJ, 24, .inr (.inl cu)))])) (va_A [(m0, .inr (4, [.ref m1, .ref m2, .ref m3, .ref m4, .ref m5, .int (nI np), .int (nI fw), .long rl])), (m1, .inl (cI, 24, .inl rq)), (m2, .inl (cI, 24, .inl (fun jj => nI (wp jj)))), (m3, .inl (cJ, 24, .inr (.inl cu)))] sz)) 0 0 (va_A [(m0, .inr (4, [.ref m1, .ref m2, .ref m3, .ref m4, .ref m5, .int (nI np), .int (nI fw), .long rl])), (m1, .inl (cI, 24, .inl rq)), (m2, .inl (cI, 24, .inl (fun jj => nI (wp jj)))), (m3, .inl (cJ, 24, .inr (.inl cu)))] sz) := by
  refine gx_met RX0 rfl (by decide) rfl (Nat.le_of_ble_eq_true rfl) ?_
  intro X hl hDx hAx C hQ hXP hsz hin
  subst hl; subst hDx
  rw [← hAx] at hQ
  refine g_lv [0] (lv' := [(0, .ref m0)]) rfl ?_
  refine g_iconst (v := -1) C dX0_longestLeft_0 1 rfl (by decide) ?_
  refine g_istore_n C dX0_longestLeft_1 2 rfl (by decide) [1, 0] (lv' := [(0, .ref m0), (1, .int (-1))]) rfl ?_
  refine g_iconst (v := nI 0) C dX0_longestLeft_2 3 rfl (by decide) ?_
  refine g_istore_n C dX0_longestLeft_3 4 rfl (by decide) [1, 2, 0] (lv' := [(0, .ref m0), (1, .int (-1)), (2, .int (nI 0))]) rfl ?_
  have hloop : ∀ (fuel i : Nat), i ≤ np → np + 1 ≤ i + fuel → gx X 0 0 [(m0, .inr (4, [.ref m1, .ref m2, .ref m3, .ref m4, .ref m5, .int (nI np), .int (nI fw), .long rl])), (m1, .inl (cI, 24, .inl rq)), (m2, .inl (cI, 24, .inl (fun jj => nI (wp jj)))), (m3, .inl (cJ, 24, .inr (.inl cu)))] 4 [(0, .ref m0), (1, .int (oI (lgl rq wp cu i))), (2, .int (nI i))] [] := by
    intro fuel
    induction fuel with
    | zero => intro i h1 h2; exact absurd h2 (by omega)
    | succ fuel hloop_ih =>
      intro i hle hfu
      refine g_iload_n C dX0_longestLeft_4 5 rfl rfl ?_
      refine g_aload_n C dX0_longestLeft_5 6 rfl rfl ?_
      refine g_get C iw_X0_longestLeft_X0 0 rfl rfl 5 (by decide) (by decide +kernel) rfl rfl dX0_longestLeft_6 9 rfl ?_
      refine g_icmp_ge_n C dX0_longestLeft_9 66 12 (by decide) rfl (by omega) (by omega) (fun c9 => ?_) (fun c9 => ?_)
      · have e_i : np = i := by omega
        subst e_i
        refine g_iload_n C dX0_longestLeft_66 67 rfl rfl ?_
        exact g_iret C hQ (Nat.le_of_ble_eq_true rfl) (Nat.le_of_ble_eq_true rfl) dX0_longestLeft_67 () rfl rfl
      · have hw1 := hwp i (by omega)
        refine g_aload_n C dX0_longestLeft_12 13 rfl rfl ?_
        refine g_get C iw_X0_longestLeft_X0 0 rfl rfl 0 (by decide) (by decide +kernel) rfl rfl dX0_longestLeft_13 16 rfl ?_
        refine g_aload_n C dX0_longestLeft_16 17 rfl rfl ?_
        refine g_get C iw_X0_longestLeft_X0 0 rfl rfl 1 (by decide) (by decide +kernel) rfl rfl dX0_longestLeft_17 20 rfl ?_
        refine g_iload_n C dX0_longestLeft_20 21 rfl rfl ?_
        refine g_iald C 2 0 rfl rfl i rfl (by omega) (by decide) dX0_longestLeft_21 22 rfl ?_
        refine g_iald C 1 0 rfl rfl (wp i) rfl (by omega) (by decide) dX0_longestLeft_22 23 rfl ?_
        refine g_iconst (v := -1) C dX0_longestLeft_23 24 rfl (by decide) ?_
        refine g_icmp_ne C dX0_longestLeft_24 31 27 (by decide) rfl (fun c24 => ?_) (fun c24 => ?_)
        · refine g_iconst (v := nI 0) C dX0_longestLeft_31 32 rfl (by decide) ?_
          refine g_istore_n C dX0_longestLeft_32 33 rfl (by decide) [1, 2, 3, 0] (lv' := [(0, .ref m0), (1, .int (oI (lgl rq wp cu i))), (2, .int (nI i)), (3, .int (nI 0))]) rfl ?_
          refine g_iload_n C dX0_longestLeft_33 34 rfl rfl ?_
          refine g_if_eq_n C dX0_longestLeft_34 60 37 (by decide) rfl (by omega) (fun c34 => ?_) (fun c34 => ?_)
          · refine g_iinc (v := nI (i + 1)) C dX0_longestLeft_60 63 rfl rfl (nI_add i 1) (by decide) [1, 2, 0, 3] (lv' := [(0, .ref m0), (1, .int (oI (lgl rq wp cu i))), (2, .int (nI (i + 1))), (3, .int (nI 0))]) rfl ?_
            refine g_goto C dX0_longestLeft_63 4 (by decide) ?_
            refine g_lv [0, 1, 2] (lv' := [(0, .ref m0), (1, .int (oI (lgl rq wp cu i))), (2, .int (nI (i + 1)))]) rfl ?_
            rw [show lgl rq wp cu i = lgl rq wp cu (i + 1) from by rw [show lgl rq wp cu (i + 1) = (match lgl rq wp cu i with | none => if rq (wp i) = -1 then some i else none | some j => if rq (wp i) = -1 ∧ cu j < cu i then some i else some j) from rfl]; cases lgl rq wp cu i with | none => simp [c24] | some j => simp [c24]]
            exact hloop_ih (i + 1) (by omega) (by omega)
          · exact absurd c34 (by omega)
        · refine g_iconst (v := nI 1) C dX0_longestLeft_27 28 rfl (by decide) ?_
          refine g_goto C dX0_longestLeft_28 32 (by decide) ?_
          refine g_istore_n C dX0_longestLeft_32 33 rfl (by decide) [1, 2, 3, 0] (lv' := [(0, .ref m0), (1, .int (oI (lgl rq wp cu i))), (2, .int (nI i)), (3, .int (nI 1))]) rfl ?_
          refine g_iload_n C dX0_longestLeft_33 34 rfl rfl ?_
          refine g_if_eq_n C dX0_longestLeft_34 60 37 (by decide) rfl (by omega) (fun c34 => ?_) (fun c34 => ?_)
          · exact absurd c34 (by omega)
          · cases hlg : lgl rq wp cu i with
            | none =>
              rw [show oI none = -1 from rfl]
              refine g_iload_n C dX0_longestLeft_37 38 rfl rfl ?_
              refine g_iconst (v := -1) C dX0_longestLeft_38 39 rfl (by decide) ?_
              refine g_icmp_eq C dX0_longestLeft_39 58 42 (by decide) rfl (fun c39 => ?_) (fun c39 => ?_)
              · refine g_iload_n C dX0_longestLeft_58 59 rfl rfl ?_
                refine g_istore_n C dX0_longestLeft_59 60 rfl (by decide) [1, 0, 2, 3] (lv' := [(0, .ref m0), (1, .int (nI i)), (2, .int (nI i)), (3, .int (nI 1))]) rfl ?_
                refine g_iinc (v := nI (i + 1)) C dX0_longestLeft_60 63 rfl rfl (nI_add i 1) (by decide) [1, 2, 0, 3] (lv' := [(0, .ref m0), (1, .int (nI i)), (2, .int (nI (i + 1))), (3, .int (nI 1))]) rfl ?_
                refine g_goto C dX0_longestLeft_63 4 (by decide) ?_
                refine g_lv [0, 1, 2] (lv' := [(0, .ref m0), (1, .int (nI i)), (2, .int (nI (i + 1)))]) rfl ?_
                rw [show nI i = oI (lgl rq wp cu (i + 1)) from by simp [lgl, hlg, c24]; rfl]
                exact hloop_ih (i + 1) (by omega) (by omega)
              · exact absurd rfl c39
            | some j =>
              rw [show oI (some j) = nI j from rfl]
              have hj := lgl_lt hlg
              refine g_iload_n C dX0_longestLeft_37 38 rfl rfl ?_
              refine g_iconst (v := -1) C dX0_longestLeft_38 39 rfl (by decide) ?_
              refine g_icmp_eq C dX0_longestLeft_39 58 42 (by decide) rfl (fun c39 => ?_) (fun c39 => ?_)
              · exact absurd c39 (nI_m1 (by omega))
              · refine g_aload_n C dX0_longestLeft_42 43 rfl rfl ?_
                refine g_get C iw_X0_longestLeft_X0 0 rfl rfl 2 (by decide) (by decide +kernel) rfl rfl dX0_longestLeft_43 46 rfl ?_
                refine g_iload_n C dX0_longestLeft_46 47 rfl rfl ?_
                refine g_lald C 3 1 rfl rfl i rfl (by omega) (by decide) dX0_longestLeft_47 48 rfl ?_
                refine g_aload_n C dX0_longestLeft_48 49 rfl rfl ?_
                refine g_get C iw_X0_longestLeft_X0 0 rfl rfl 2 (by decide) (by decide +kernel) rfl rfl dX0_longestLeft_49 52 rfl ?_
                refine g_iload_n C dX0_longestLeft_52 53 rfl rfl ?_
                refine g_lald C 3 1 rfl rfl j rfl (by omega) (by decide) dX0_longestLeft_53 54 rfl ?_
                refine g_lc_le C dX0_longestLeft_54 55 rfl dX0_longestLeft_55 60 58 (by decide) rfl (fun c54 => ?_) (fun c54 => ?_)
                · refine g_iinc (v := nI (i + 1)) C dX0_longestLeft_60 63 rfl rfl (nI_add i 1) (by decide) [1, 2, 0, 3] (lv' := [(0, .ref m0), (1, .int (nI j)), (2, .int (nI (i + 1))), (3, .int (nI 1))]) rfl ?_
                  refine g_goto C dX0_longestLeft_63 4 (by decide) ?_
                  refine g_lv [0, 1, 2] (lv' := [(0, .ref m0), (1, .int (nI j)), (2, .int (nI (i + 1)))]) rfl ?_
                  rw [show nI j = oI (lgl rq wp cu (i + 1)) from by simp [lgl, hlg, c24, Int64.not_lt.mpr c54]; rfl]
                  exact hloop_ih (i + 1) (by omega) (by omega)
                · refine g_iload_n C dX0_longestLeft_58 59 rfl rfl ?_
                  refine g_istore_n C dX0_longestLeft_59 60 rfl (by decide) [1, 0, 2, 3] (lv' := [(0, .ref m0), (1, .int (nI i)), (2, .int (nI i)), (3, .int (nI 1))]) rfl ?_
                  refine g_iinc (v := nI (i + 1)) C dX0_longestLeft_60 63 rfl rfl (nI_add i 1) (by decide) [1, 2, 0, 3] (lv' := [(0, .ref m0), (1, .int (nI i)), (2, .int (nI (i + 1))), (3, .int (nI 1))]) rfl ?_
                  refine g_goto C dX0_longestLeft_63 4 (by decide) ?_
                  refine g_lv [0, 1, 2] (lv' := [(0, .ref m0), (1, .int (nI i)), (2, .int (nI (i + 1)))]) rfl ?_
                  rw [show nI i = oI (lgl rq wp cu (i + 1)) from by simp [lgl, hlg, c24, Int64.not_le.mp c54]; rfl]
                  exact hloop_ih (i + 1) (by omega) (by omega)
  exact hloop (np + 1) 0 (by omega) (by omega)
