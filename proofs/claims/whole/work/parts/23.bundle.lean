theorem iw_X3_addBundle_X3 : ∀ w ∈ wsX30, w ∈ wsX3_addBundle := by decide +kernel
set_option maxHeartbeats 4000000 in
set_option maxRecDepth 100000 in
theorem c_X3_addBundle (l : Launch) (D : va_G) (cI cJ cB cZ : ClassId) (sz : Nat) (t0 : Nat) (t1 : Nat) (t2 : Nat) (t3 : Nat) (t4 : Nat) (t5 : Nat) (nd : Nat) (bd : Nat) (fN : Nat → Nat) (oN : Nat → Nat) (ln : Nat → Nat) (wy : Nat → Int64) (a : Nat) (b : Nat) (len : Nat) (ha : a < 16) (hb : b < 16) (hd : nd ≤ 16) (h1 : wy (a * 16 + b) = -1) (h2 : bd < 15) : Met l yX3_addBundle wsX3_addBundle ({ frames := 3, cells := 0, slots := 0, locals := 73 }) (va_Pc [.ref t0, .int (nI a), .int (nI b), .long (lN len)] (pW D (TY cI cJ cB cZ) [(t0, .inr (7, [.ref t1, .ref t2, .ref t3, .ref t4, .ref t5, .int (nI nd), .int (nI bd)])), (t2, .inl (cI, 15, .inl (fun jj => nI (fN jj)))), (t3, .inl (cI, 15, .inl (fun jj => nI (oN jj)))), (t4, .inl (cI, 15, .inl (fun jj => nI (ln jj)))), (t5, .inl (cJ, 256, .inr (.inl wy)))] (nst [(RX3, 52, yX6_hasBit, "HarnessRows")]) sz)) (va_Qi (fun (rv : Int32) (_ : Unit) => rv = nI bd) (qW D (TY cI cJ cB cZ) (va_A [(t0, .inr (7, [.ref t1, .ref t2, .ref t3, .ref t4, .ref t5, .int (nI nd), .int (nI bd)])), (t2, .inl (cI, 15, .inl (fun jj => nI (fN jj)))), (t3, .inl (cI, 15, .inl (fun jj => nI (oN jj)))), (t4, .inl (cI, 15, .inl (fun jj => nI (ln jj)))), (t5, .inl (cJ, 256, .inr (.inl wy)))] sz) (fun _ => [(t0, .inr (7, [.ref t1, .ref t2, .ref t3, .ref t4, .ref t5, .int (nI nd), .int (nI (bd + 1))])), (t2, .inl (cI, 15, .inl (fun jj => nI ((updN fN bd a) jj)))), (t3, .inl (cI, 15, .inl (fun jj => nI ((updN oN bd b) jj)))), (t4, .inl (cI, 15, .inl (fun jj => nI ((updN ln bd len) jj)))), (t5, .inl (cJ, 256, .inr (.inl (jall (tb wy a nd) (tb wy b nd) a b (lN len) nd wy nd))))])) (va_A [(t0, .inr (7, [.ref t1, .ref t2, .ref t3, .ref t4, .ref t5, .int (nI nd), .int (nI bd)])), (t2, .inl (cI, 15, .inl (fun jj => nI (fN jj)))), (t3, .inl (cI, 15, .inl (fun jj => nI (oN jj)))), (t4, .inl (cI, 15, .inl (fun jj => nI (ln jj)))), (t5, .inl (cJ, 256, .inr (.inl wy)))] sz)) 0 0 (va_A [(t0, .inr (7, [.ref t1, .ref t2, .ref t3, .ref t4, .ref t5, .int (nI nd), .int (nI bd)])), (t2, .inl (cI, 15, .inl (fun jj => nI (fN jj)))), (t3, .inl (cI, 15, .inl (fun jj => nI (oN jj)))), (t4, .inl (cI, 15, .inl (fun jj => nI (ln jj)))), (t5, .inl (cJ, 256, .inr (.inl wy)))] sz) := by
  refine gx_met RX3 rfl (by decide) rfl (Nat.le_of_ble_eq_true rfl) ?_
  intro X hl hDx hAx C hQ hXP hsz hin
  subst hl; subst hDx
  rw [← hAx] at hQ
  refine g_lv [0, 1, 2, 3] (lv' := [(0, .ref t0), (1, .int (nI a)), (2, .int (nI b)), (3, .long (lN len))]) rfl ?_
  refine g_aload_n C dX3_addBundle_0 1 rfl rfl ?_
  refine g_iload_n C dX3_addBundle_1 2 rfl rfl ?_
  refine g_iload_n C dX3_addBundle_2 3 rfl rfl ?_
  refine g_callVl (ci := 7) (q0 := 0) (As := [.int (nI a), .int (nI b)]) (rest := []) (wr := [(t2, .inl (cI, 15, .inl (fun jj => nI (fN jj)))), (t3, .inl (cI, 15, .inl (fun jj => nI (oN jj)))), (t4, .inl (cI, 15, .inl (fun jj => nI (ln jj))))]) (ws' := fun (_ : Unit) => [(t0, .inr (7, [.ref t1, .ref t2, .ref t3, .ref t4, .ref t5, .int (nI nd), .int (nI bd)])), (t2, .inl (cI, 15, .inl (fun jj => nI (fN jj)))), (t3, .inl (cI, 15, .inl (fun jj => nI (oN jj)))), (t4, .inl (cI, 15, .inl (fun jj => nI (ln jj)))), (t5, .inl (cJ, 256, .inr (.inl wy)))]) C (fun sz => c_X3_wayBetween _ _ cI cJ cB cZ sz t0 t1 t2 t3 t4 t5 nd bd wy a b (by omega) (by omega)) gx_XP0 2 gX3_addBundle_X3_wayBetween rfl rfl rfl (by decide +kernel) ⟨Nat.le_of_ble_eq_true rfl, Nat.le_of_ble_eq_true rfl⟩ rfl rfl [0, 4] [1, 2, 3] [3, 0, 1, 2, 4] rfl (by decide) rfl (by decide) (by decide) (fun _ => rfl) (by decide) rfl rfl (Nat.le_of_ble_eq_true rfl) dX3_addBundle_3 ⟨Nat.le_of_ble_eq_true rfl, Nat.le_of_ble_eq_true rfl⟩ 6 rfl (eqk ?_)
  refine g_ldc2 C (-1) (by decide +kernel) dX3_addBundle_6 9 rfl ?_
  refine g_lc_ne C dX3_addBundle_9 10 rfl dX3_addBundle_10 22 13 (by decide) rfl (fun c9 => ?_) (fun c9 => ?_)
  · exact absurd h1 c9
  · refine g_aload_n C dX3_addBundle_13 14 rfl rfl ?_
    refine g_get C iw_X3_addBundle_X3 0 rfl rfl 6 (by decide) (by decide +kernel) rfl rfl dX3_addBundle_14 17 rfl ?_
    refine g_bipush (v := nI 15) C dX3_addBundle_17 19 rfl (by decide) ?_
    refine g_icmp_lt_n C dX3_addBundle_19 24 22 (by decide) rfl (by omega) (by omega) (fun c19 => ?_) (fun c19 => ?_)
    · refine g_aload_n C dX3_addBundle_24 25 rfl rfl ?_
      refine g_get C iw_X3_addBundle_X3 0 rfl rfl 1 (by decide) (by decide +kernel) rfl rfl dX3_addBundle_25 28 rfl ?_
      refine g_aload_n C dX3_addBundle_28 29 rfl rfl ?_
      refine g_get C iw_X3_addBundle_X3 0 rfl rfl 6 (by decide) (by decide +kernel) rfl rfl dX3_addBundle_29 32 rfl ?_
      refine g_iload_n C dX3_addBundle_32 33 rfl rfl ?_
      refine g_iast C 1 0 rfl rfl bd rfl (by omega) (by decide) dX3_addBundle_33 34 rfl (ws' := [(t0, .inr (7, [.ref t1, .ref t2, .ref t3, .ref t4, .ref t5, .int (nI nd), .int (nI bd)])), (t2, .inl (cI, 15, .inl (fun jj => nI ((updN fN bd a) jj)))), (t3, .inl (cI, 15, .inl (fun jj => nI (oN jj)))), (t4, .inl (cI, 15, .inl (fun jj => nI (ln jj)))), (t5, .inl (cJ, 256, .inr (.inl wy)))]) (by rw [upd_nI]; rfl) ?_
      refine g_aload_n C dX3_addBundle_34 35 rfl rfl ?_
      refine g_get C iw_X3_addBundle_X3 0 rfl rfl 2 (by decide) (by decide +kernel) rfl rfl dX3_addBundle_35 38 rfl ?_
      refine g_aload_n C dX3_addBundle_38 39 rfl rfl ?_
      refine g_get C iw_X3_addBundle_X3 0 rfl rfl 6 (by decide) (by decide +kernel) rfl rfl dX3_addBundle_39 42 rfl ?_
      refine g_iload_n C dX3_addBundle_42 43 rfl rfl ?_
      refine g_iast C 2 0 rfl rfl bd rfl (by omega) (by decide) dX3_addBundle_43 44 rfl (ws' := [(t0, .inr (7, [.ref t1, .ref t2, .ref t3, .ref t4, .ref t5, .int (nI nd), .int (nI bd)])), (t2, .inl (cI, 15, .inl (fun jj => nI ((updN fN bd a) jj)))), (t3, .inl (cI, 15, .inl (fun jj => nI ((updN oN bd b) jj)))), (t4, .inl (cI, 15, .inl (fun jj => nI (ln jj)))), (t5, .inl (cJ, 256, .inr (.inl wy)))]) (by rw [upd_nI]; rfl) ?_
      refine g_aload_n C dX3_addBundle_44 45 rfl rfl ?_
      refine g_get C iw_X3_addBundle_X3 0 rfl rfl 3 (by decide) (by decide +kernel) rfl rfl dX3_addBundle_45 48 rfl ?_
      refine g_aload_n C dX3_addBundle_48 49 rfl rfl ?_
      refine g_get C iw_X3_addBundle_X3 0 rfl rfl 6 (by decide) (by decide +kernel) rfl rfl dX3_addBundle_49 52 rfl ?_
      refine g_lload_n C dX3_addBundle_52 53 rfl rfl ?_
      refine g_l2i C dX3_addBundle_53 54 rfl rfl ?_
      refine g_topi (nI len) (lN_i len) ?_
      refine g_iast C 3 0 rfl rfl bd rfl (by omega) (by decide) dX3_addBundle_54 55 rfl (ws' := [(t0, .inr (7, [.ref t1, .ref t2, .ref t3, .ref t4, .ref t5, .int (nI nd), .int (nI bd)])), (t2, .inl (cI, 15, .inl (fun jj => nI ((updN fN bd a) jj)))), (t3, .inl (cI, 15, .inl (fun jj => nI ((updN oN bd b) jj)))), (t4, .inl (cI, 15, .inl (fun jj => nI ((updN ln bd len) jj)))), (t5, .inl (cJ, 256, .inr (.inl wy)))]) (by rw [upd_nI]; rfl) ?_
      refine g_aload_n C dX3_addBundle_55 56 rfl rfl ?_
      refine g_iload_n C dX3_addBundle_56 57 rfl rfl ?_
      refine g_iload_n C dX3_addBundle_57 58 rfl rfl ?_
      refine g_lload_n C dX3_addBundle_58 59 rfl rfl ?_
      refine g_callVv (ci := 7) (q0 := 0) (As := [.int (nI a), .int (nI b), .long (lN len)]) (rest := []) (wr := [(t2, .inl (cI, 15, .inl (fun jj => nI ((updN fN bd a) jj)))), (t3, .inl (cI, 15, .inl (fun jj => nI ((updN oN bd b) jj)))), (t4, .inl (cI, 15, .inl (fun jj => nI ((updN ln bd len) jj))))]) (ws' := fun (_ : Unit) => [(t0, .inr (7, [.ref t1, .ref t2, .ref t3, .ref t4, .ref t5, .int (nI nd), .int (nI bd)])), (t2, .inl (cI, 15, .inl (fun jj => nI ((updN fN bd a) jj)))), (t3, .inl (cI, 15, .inl (fun jj => nI ((updN oN bd b) jj)))), (t4, .inl (cI, 15, .inl (fun jj => nI ((updN ln bd len) jj)))), (t5, .inl (cJ, 256, .inr (.inl (jall (tb wy a nd) (tb wy b nd) a b (lN len) nd wy nd))))]) C (fun sz => c_X3_joinTrees _ _ cI cJ cB cZ sz t0 t1 t2 t3 t4 t5 nd bd wy a b (lN len) (by omega) (by omega) (by omega)) (gx_nst hXP (by decide +kernel)) 3 gX3_addBundle_X3_joinTrees rfl rfl rfl (by decide +kernel) ⟨Nat.le_of_ble_eq_true rfl, Nat.le_of_ble_eq_true rfl⟩ rfl rfl [0, 4] [1, 2, 3] [3, 0, 1, 2, 4] rfl (by decide) rfl (by decide) (by decide) (fun _ => rfl) (by decide) rfl rfl (Nat.le_of_ble_eq_true rfl) dX3_addBundle_59 ⟨Nat.le_of_ble_eq_true rfl, Nat.le_of_ble_eq_true rfl⟩ 62 rfl (fun _ _ => ?_)
      refine g_aload_n C dX3_addBundle_62 63 rfl rfl ?_
      refine g_dup C dX3_addBundle_63 64 rfl rfl ?_
      refine g_get C iw_X3_addBundle_X3 0 rfl rfl 6 (by decide) (by decide +kernel) rfl rfl dX3_addBundle_64 67 rfl ?_
      refine g_iconst (v := nI 1) C dX3_addBundle_67 68 rfl (by decide) ?_
      refine g_iaddn C dX3_addBundle_68 69 rfl ?_
      refine g_put C (ty := .int) iw_X3_addBundle_X3 tyX3 tyX3_ok nmX3 0 rfl rfl 6 (by decide) (by decide +kernel) rfl rfl (by decide +kernel) rfl rfl (Nat.le_of_ble_eq_true rfl) dX3_addBundle_69 72 rfl (ws' := [(t0, .inr (7, [.ref t1, .ref t2, .ref t3, .ref t4, .ref t5, .int (nI nd), .int (nI (bd + 1))])), (t2, .inl (cI, 15, .inl (fun jj => nI ((updN fN bd a) jj)))), (t3, .inl (cI, 15, .inl (fun jj => nI ((updN oN bd b) jj)))), (t4, .inl (cI, 15, .inl (fun jj => nI ((updN ln bd len) jj)))), (t5, .inl (cJ, 256, .inr (.inl (jall (tb wy a nd) (tb wy b nd) a b (lN len) nd wy nd))))]) rfl ?_
      refine g_aload_n C dX3_addBundle_72 73 rfl rfl ?_
      refine g_get C iw_X3_addBundle_X3 0 rfl rfl 6 (by decide) (by decide +kernel) rfl rfl dX3_addBundle_73 76 rfl ?_
      refine g_iconst (v := nI 1) C dX3_addBundle_76 77 rfl (by decide) ?_
      refine g_isubn C dX3_addBundle_77 78 rfl (by omega) ?_
      exact g_iret C hQ (Nat.le_of_ble_eq_true rfl) (Nat.le_of_ble_eq_true rfl) dX3_addBundle_78 () (by rw [show bd + 1 - 1 = bd by omega]) rfl
    · exact absurd c19 (by omega)

set_option maxHeartbeats 4000000 in
set_option maxRecDepth 100000 in
theorem c_X3_addBundle_no (l : Launch) (D : va_G) (cI cJ cB cZ : ClassId) (sz : Nat) (t0 : Nat) (t1 : Nat) (t2 : Nat) (t3 : Nat) (t4 : Nat) (t5 : Nat) (nd : Nat) (bd : Nat) (wy : Nat → Int64) (a : Nat) (b : Nat) (w : Int64) (ha : a < 16) (hb : b < 16) (h1 : ¬ wy (a * 16 + b) = -1) : Met l yX3_addBundle wsX3_addBundle ({ frames := 1, cells := 0, slots := 0, locals := 22 }) (va_Pc [.ref t0, .int (nI a), .int (nI b), .long w] (pW D (TY cI cJ cB cZ) [(t0, .inr (7, [.ref t1, .ref t2, .ref t3, .ref t4, .ref t5, .int (nI nd), .int (nI bd)])), (t5, .inl (cJ, 256, .inr (.inl wy)))] (nst [(RX3, 52, yX6_hasBit, "HarnessRows")]) sz)) (va_Qi (fun (rv : Int32) (_ : Unit) => rv = (-1)) (qW D (TY cI cJ cB cZ) (va_A [(t0, .inr (7, [.ref t1, .ref t2, .ref t3, .ref t4, .ref t5, .int (nI nd), .int (nI bd)])), (t5, .inl (cJ, 256, .inr (.inl wy)))] sz) (fun _ => [(t0, .inr (7, [.ref t1, .ref t2, .ref t3, .ref t4, .ref t5, .int (nI nd), .int (nI bd)])), (t5, .inl (cJ, 256, .inr (.inl wy)))])) (va_A [(t0, .inr (7, [.ref t1, .ref t2, .ref t3, .ref t4, .ref t5, .int (nI nd), .int (nI bd)])), (t5, .inl (cJ, 256, .inr (.inl wy)))] sz)) 0 0 (va_A [(t0, .inr (7, [.ref t1, .ref t2, .ref t3, .ref t4, .ref t5, .int (nI nd), .int (nI bd)])), (t5, .inl (cJ, 256, .inr (.inl wy)))] sz) := by
  refine gx_met RX3 rfl (by decide) rfl (Nat.le_of_ble_eq_true rfl) ?_
  intro X hl hDx hAx C hQ hXP hsz hin
  subst hl; subst hDx
  rw [← hAx] at hQ
  refine g_lv [0, 1, 2, 3] (lv' := [(0, .ref t0), (1, .int (nI a)), (2, .int (nI b)), (3, .long w)]) rfl ?_
  refine g_aload_n C dX3_addBundle_0 1 rfl rfl ?_
  refine g_iload_n C dX3_addBundle_1 2 rfl rfl ?_
  refine g_iload_n C dX3_addBundle_2 3 rfl rfl ?_
  refine g_callVl (ci := 7) (q0 := 0) (As := [.int (nI a), .int (nI b)]) (rest := []) (wr := []) (ws' := fun (_ : Unit) => [(t0, .inr (7, [.ref t1, .ref t2, .ref t3, .ref t4, .ref t5, .int (nI nd), .int (nI bd)])), (t5, .inl (cJ, 256, .inr (.inl wy)))]) C (fun sz => c_X3_wayBetween _ _ cI cJ cB cZ sz t0 t1 t2 t3 t4 t5 nd bd wy a b (by omega) (by omega)) gx_XP0 2 gX3_addBundle_X3_wayBetween rfl rfl rfl (by decide +kernel) ⟨Nat.le_of_ble_eq_true rfl, Nat.le_of_ble_eq_true rfl⟩ rfl rfl [0, 1] [] [0, 1] rfl (by decide) rfl (by decide) (by decide) (fun _ => rfl) (by decide) rfl rfl (Nat.le_of_ble_eq_true rfl) dX3_addBundle_3 ⟨Nat.le_of_ble_eq_true rfl, Nat.le_of_ble_eq_true rfl⟩ 6 rfl (eqk ?_)
  refine g_ldc2 C (-1) (by decide +kernel) dX3_addBundle_6 9 rfl ?_
  refine g_lc_ne C dX3_addBundle_9 10 rfl dX3_addBundle_10 22 13 (by decide) rfl (fun c9 => ?_) (fun c9 => ?_)
  · refine g_iconst (v := -1) C dX3_addBundle_22 23 rfl (by decide) ?_
    exact g_iret C hQ (Nat.le_of_ble_eq_true rfl) (Nat.le_of_ble_eq_true rfl) dX3_addBundle_23 () rfl rfl
  · exact absurd c9 h1

theorem iw_X3_init_X3 : ∀ w ∈ wsX30, w ∈ wsX3_init := by decide +kernel
set_option maxHeartbeats 4000000 in
set_option maxRecDepth 100000 in
theorem c_X3_init (l : Launch) (D : va_G) (cI cJ cB cZ : ClassId) (sz : Nat) (t0 : Nat)  : Met l yX3_init wsX3_init ({ frames := 1, cells := 5, slots := 317, locals := 12 }) (va_Pc [.ref t0] (pW D (TY cI cJ cB cZ) [(t0, .inr (7, [.null, .null, .null, .null, .null, .int 0, .int 0]))] (fun _ => True) sz)) (va_Qv (fun (u : Nat × Nat × Nat × Nat × Nat) => True) (qW D (TY cI cJ cB cZ) (va_A [(t0, .inr (7, [.null, .null, .null, .null, .null, .int 0, .int 0]))] sz) (fun u => [(t0, .inr (7, [.ref u.1, .ref u.2.1, .ref u.2.2.1, .ref u.2.2.2.1, .ref u.2.2.2.2, .int (nI 0), .int (nI 0)])), (u.1, .inl (cI, 16, .inl (fun jj => nI ((fun _ => 0) jj)))), (u.2.1, .inl (cI, 15, .inl (fun jj => nI ((fun _ => 0) jj)))), (u.2.2.1, .inl (cI, 15, .inl (fun jj => nI ((fun _ => 0) jj)))), (u.2.2.2.1, .inl (cI, 15, .inl (fun jj => nI ((fun _ => 0) jj)))), (u.2.2.2.2, .inl (cJ, 256, .inr (.inl (fun _ => 0))))])) (va_A [(t0, .inr (7, [.null, .null, .null, .null, .null, .int 0, .int 0]))] sz)) 5 317 (va_A [(t0, .inr (7, [.null, .null, .null, .null, .null, .int 0, .int 0]))] sz) := by
  refine gx_met RX3 rfl (by decide) rfl (Nat.le_of_ble_eq_true rfl) ?_
  intro X hl hDx hAx C hQ hXP hsz hin
  subst hl; subst hDx
  rw [← hAx] at hQ
  refine g_lv [0] (lv' := [(0, .ref t0)]) rfl ?_
  refine g_aload_n C dX3_init_0 1 rfl rfl ?_
  refine g_objInit C (by decide +kernel) (by decide +kernel) (by first | exact List.mem_of_getElem? (i := 3) rfl | exact List.mem_of_getElem? (i := 2) rfl | exact List.mem_of_getElem? (i := 4) rfl | exact List.mem_of_getElem? (i := 5) rfl) dX3_init_1 4 rfl (Nat.le_of_ble_eq_true rfl) (Nat.le_of_ble_eq_true rfl) ?_
  refine g_aload_n C dX3_init_4 5 rfl rfl ?_
  refine g_bipush (v := nI 16) C dX3_init_5 7 rfl (by decide) ?_
  refine g_newa_int C 0 rfl (by decide) (by decide +kernel) dX3_init_7 9 rfl (Nat.le_of_ble_eq_true rfl) (Nat.le_of_ble_eq_true rfl) (fun q7 => ?_)
  refine g_ws (ws' := [(t0, .inr (7, [.null, .null, .null, .null, .null, .int 0, .int 0])), (q7, .inl (cI, 16, .inl (fun _ => 0)))]) rfl ?_
  refine g_putF C (hI := hin rfl) (ty := .array .int) iw_X3_init_X3 tyX3 tyX3_ok nmX3 0 rfl rfl 0 (by decide) (by decide +kernel) rfl rfl rfl (by decide +kernel) rfl rfl (Nat.le_of_ble_eq_true rfl) dX3_init_9 12 rfl (ws' := [(t0, .inr (7, [.ref q7, .null, .null, .null, .null, .int 0, .int 0])), (q7, .inl (cI, 16, .inl (fun _ => 0)))]) rfl ?_
  refine g_aload_n C dX3_init_12 13 rfl rfl ?_
  refine g_bipush (v := nI 15) C dX3_init_13 15 rfl (by decide) ?_
  refine g_newa_int C 0 rfl (by decide) (by decide +kernel) dX3_init_15 17 rfl (Nat.le_of_ble_eq_true rfl) (Nat.le_of_ble_eq_true rfl) (fun q15 => ?_)
  refine g_ws (ws' := [(t0, .inr (7, [.ref q7, .null, .null, .null, .null, .int 0, .int 0])), (q7, .inl (cI, 16, .inl (fun _ => 0))), (q15, .inl (cI, 15, .inl (fun _ => 0)))]) rfl ?_
  refine g_putF C (hI := hin rfl) (ty := .array .int) iw_X3_init_X3 tyX3 tyX3_ok nmX3 0 rfl rfl 1 (by decide) (by decide +kernel) rfl rfl rfl (by decide +kernel) rfl rfl (Nat.le_of_ble_eq_true rfl) dX3_init_17 20 rfl (ws' := [(t0, .inr (7, [.ref q7, .ref q15, .null, .null, .null, .int 0, .int 0])), (q7, .inl (cI, 16, .inl (fun _ => 0))), (q15, .inl (cI, 15, .inl (fun _ => 0)))]) rfl ?_
  refine g_aload_n C dX3_init_20 21 rfl rfl ?_
  refine g_bipush (v := nI 15) C dX3_init_21 23 rfl (by decide) ?_
  refine g_newa_int C 0 rfl (by decide) (by decide +kernel) dX3_init_23 25 rfl (Nat.le_of_ble_eq_true rfl) (Nat.le_of_ble_eq_true rfl) (fun q23 => ?_)
  refine g_ws (ws' := [(t0, .inr (7, [.ref q7, .ref q15, .null, .null, .null, .int 0, .int 0])), (q7, .inl (cI, 16, .inl (fun _ => 0))), (q15, .inl (cI, 15, .inl (fun _ => 0))), (q23, .inl (cI, 15, .inl (fun _ => 0)))]) rfl ?_
  refine g_putF C (hI := hin rfl) (ty := .array .int) iw_X3_init_X3 tyX3 tyX3_ok nmX3 0 rfl rfl 2 (by decide) (by decide +kernel) rfl rfl rfl (by decide +kernel) rfl rfl (Nat.le_of_ble_eq_true rfl) dX3_init_25 28 rfl (ws' := [(t0, .inr (7, [.ref q7, .ref q15, .ref q23, .null, .null, .int 0, .int 0])), (q7, .inl (cI, 16, .inl (fun _ => 0))), (q15, .inl (cI, 15, .inl (fun _ => 0))), (q23, .inl (cI, 15, .inl (fun _ => 0)))]) rfl ?_
  refine g_aload_n C dX3_init_28 29 rfl rfl ?_
  refine g_bipush (v := nI 15) C dX3_init_29 31 rfl (by decide) ?_
  refine g_newa_int C 0 rfl (by decide) (by decide +kernel) dX3_init_31 33 rfl (Nat.le_of_ble_eq_true rfl) (Nat.le_of_ble_eq_true rfl) (fun q31 => ?_)
  refine g_ws (ws' := [(t0, .inr (7, [.ref q7, .ref q15, .ref q23, .null, .null, .int 0, .int 0])), (q7, .inl (cI, 16, .inl (fun _ => 0))), (q15, .inl (cI, 15, .inl (fun _ => 0))), (q23, .inl (cI, 15, .inl (fun _ => 0))), (q31, .inl (cI, 15, .inl (fun _ => 0)))]) rfl ?_
  refine g_putF C (hI := hin rfl) (ty := .array .int) iw_X3_init_X3 tyX3 tyX3_ok nmX3 0 rfl rfl 3 (by decide) (by decide +kernel) rfl rfl rfl (by decide +kernel) rfl rfl (Nat.le_of_ble_eq_true rfl) dX3_init_33 36 rfl (ws' := [(t0, .inr (7, [.ref q7, .ref q15, .ref q23, .ref q31, .null, .int 0, .int 0])), (q7, .inl (cI, 16, .inl (fun _ => 0))), (q15, .inl (cI, 15, .inl (fun _ => 0))), (q23, .inl (cI, 15, .inl (fun _ => 0))), (q31, .inl (cI, 15, .inl (fun _ => 0)))]) rfl ?_
  refine g_aload_n C dX3_init_36 37 rfl rfl ?_
  refine g_sipush (v := nI 256) C dX3_init_37 40 rfl (by decide) ?_
  refine g_newa_long C 1 rfl (by decide) (by decide +kernel) dX3_init_40 42 rfl (Nat.le_of_ble_eq_true rfl) (Nat.le_of_ble_eq_true rfl) (fun q40 => ?_)
  refine g_ws (ws' := [(t0, .inr (7, [.ref q7, .ref q15, .ref q23, .ref q31, .null, .int 0, .int 0])), (q7, .inl (cI, 16, .inl (fun _ => 0))), (q15, .inl (cI, 15, .inl (fun _ => 0))), (q23, .inl (cI, 15, .inl (fun _ => 0))), (q31, .inl (cI, 15, .inl (fun _ => 0))), (q40, .inl (cJ, 256, .inr (.inl (fun _ => 0))))]) rfl ?_
  refine g_putF C (hI := hin rfl) (ty := .array .long) iw_X3_init_X3 tyX3 tyX3_ok nmX3 0 rfl rfl 4 (by decide) (by decide +kernel) rfl rfl rfl (by decide +kernel) rfl rfl (Nat.le_of_ble_eq_true rfl) dX3_init_42 45 rfl (ws' := [(t0, .inr (7, [.ref q7, .ref q15, .ref q23, .ref q31, .ref q40, .int 0, .int 0])), (q7, .inl (cI, 16, .inl (fun _ => 0))), (q15, .inl (cI, 15, .inl (fun _ => 0))), (q23, .inl (cI, 15, .inl (fun _ => 0))), (q31, .inl (cI, 15, .inl (fun _ => 0))), (q40, .inl (cJ, 256, .inr (.inl (fun _ => 0))))]) rfl ?_
  refine g_aload_n C dX3_init_45 46 rfl rfl ?_
  refine g_iconst (v := nI 0) C dX3_init_46 47 rfl (by decide) ?_
  refine g_put C (ty := .int) iw_X3_init_X3 tyX3 tyX3_ok nmX3 0 rfl rfl 5 (by decide) (by decide +kernel) rfl rfl (by decide +kernel) rfl rfl (Nat.le_of_ble_eq_true rfl) dX3_init_47 50 rfl (ws' := [(t0, .inr (7, [.ref q7, .ref q15, .ref q23, .ref q31, .ref q40, .int (nI 0), .int 0])), (q7, .inl (cI, 16, .inl (fun _ => 0))), (q15, .inl (cI, 15, .inl (fun _ => 0))), (q23, .inl (cI, 15, .inl (fun _ => 0))), (q31, .inl (cI, 15, .inl (fun _ => 0))), (q40, .inl (cJ, 256, .inr (.inl (fun _ => 0))))]) rfl ?_
  refine g_aload_n C dX3_init_50 51 rfl rfl ?_
  refine g_iconst (v := nI 0) C dX3_init_51 52 rfl (by decide) ?_
  refine g_put C (ty := .int) iw_X3_init_X3 tyX3 tyX3_ok nmX3 0 rfl rfl 6 (by decide) (by decide +kernel) rfl rfl (by decide +kernel) rfl rfl (Nat.le_of_ble_eq_true rfl) dX3_init_52 55 rfl (ws' := [(t0, .inr (7, [.ref q7, .ref q15, .ref q23, .ref q31, .ref q40, .int (nI 0), .int (nI 0)])), (q7, .inl (cI, 16, .inl (fun _ => 0))), (q15, .inl (cI, 15, .inl (fun _ => 0))), (q23, .inl (cI, 15, .inl (fun _ => 0))), (q31, .inl (cI, 15, .inl (fun _ => 0))), (q40, .inl (cJ, 256, .inr (.inl (fun _ => 0))))]) rfl ?_
  exact g_vret C hQ (Nat.le_of_ble_eq_true rfl) (Nat.le_of_ble_eq_true rfl) dX3_init_55 (q7, q15, q23, q31, q40) trivial (by first | (dsimp only; done) | rfl)
