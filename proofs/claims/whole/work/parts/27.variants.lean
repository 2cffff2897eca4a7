theorem iw_X4_count_X4 : ∀ w ∈ wsX40, w ∈ wsX4_count := by decide +kernel
set_option maxHeartbeats 4000000 in
set_option maxRecDepth 100000 in
theorem c_X4_count (l : Launch) (D : va_G) (cI cJ cB cZ : ClassId) (sz : Nat) (v0 : Nat) (v1 : Nat) (v2 : Nat) (vc : Nat)  : Met l yX4_count wsX4_count ({ frames := 0, cells := 0, slots := 0, locals := 0 }) (va_Pc [.ref v0] (pW D (TY cI cJ cB cZ) [(v0, .inr (8, [.ref v1, .ref v2, .int (nI vc)]))] (fun _ => True) sz)) (va_Qi (fun (rv : Int32) (_ : Unit) => rv = nI vc) (qW D (TY cI cJ cB cZ) (va_A [(v0, .inr (8, [.ref v1, .ref v2, .int (nI vc)]))] sz) (fun _ => [(v0, .inr (8, [.ref v1, .ref v2, .int (nI vc)]))])) (va_A [(v0, .inr (8, [.ref v1, .ref v2, .int (nI vc)]))] sz)) 0 0 (va_A [(v0, .inr (8, [.ref v1, .ref v2, .int (nI vc)]))] sz) := by
  refine gx_met RX4 rfl (by decide) rfl (Nat.le_of_ble_eq_true rfl) ?_
  intro X hl hDx hAx C hQ hXP hsz hin
  subst hl; subst hDx
  rw [← hAx] at hQ
  refine g_lv [0] (lv' := [(0, .ref v0)]) rfl ?_
  refine g_aload_n C dX4_count_0 1 rfl rfl ?_
  refine g_get C iw_X4_count_X4 0 rfl rfl 2 (by decide) (by decide +kernel) rfl rfl dX4_count_1 4 rfl ?_
  exact g_iret C hQ (Nat.le_of_ble_eq_true rfl) (Nat.le_of_ble_eq_true rfl) dX4_count_4 () rfl rfl

theorem iw_X4_add_X4 : ∀ w ∈ wsX40, w ∈ wsX4_add := by decide +kernel
set_option maxHeartbeats 4000000 in
set_option maxRecDepth 100000 in
theorem c_X4_add (l : Launch) (D : va_G) (cI cJ cB cZ : ClassId) (sz : Nat) (v0 : Nat) (v1 : Nat) (v2 : Nat) (vc : Nat) (h : vc < 6) : Met l yX4_add wsX4_add ({ frames := 0, cells := 0, slots := 0, locals := 0 }) (va_Pc [.ref v0] (pW D (TY cI cJ cB cZ) [(v0, .inr (8, [.ref v1, .ref v2, .int (nI vc)]))] (fun _ => True) sz)) (va_Qi (fun (rv : Int32) (_ : Unit) => rv = nI vc) (qW D (TY cI cJ cB cZ) (va_A [(v0, .inr (8, [.ref v1, .ref v2, .int (nI vc)]))] sz) (fun _ => [(v0, .inr (8, [.ref v1, .ref v2, .int (nI (vc + 1))]))])) (va_A [(v0, .inr (8, [.ref v1, .ref v2, .int (nI vc)]))] sz)) 0 0 (va_A [(v0, .inr (8, [.ref v1, .ref v2, .int (nI vc)]))] sz) := by
  refine gx_met RX4 rfl (by decide) rfl (Nat.le_of_ble_eq_true rfl) ?_
  intro X hl hDx hAx C hQ hXP hsz hin
  subst hl; subst hDx
  rw [← hAx] at hQ
  refine g_lv [0] (lv' := [(0, .ref v0)]) rfl ?_
  refine g_aload_n C dX4_add_0 1 rfl rfl ?_
  refine g_get C iw_X4_add_X4 0 rfl rfl 2 (by decide) (by decide +kernel) rfl rfl dX4_add_1 4 rfl ?_
  refine g_bipush (v := nI 6) C dX4_add_4 6 rfl (by decide) ?_
  refine g_icmp_lt_n C dX4_add_6 11 9 (by decide) rfl (by omega) (by omega) (fun c6 => ?_) (fun c6 => ?_)
  · refine g_aload_n C dX4_add_11 12 rfl rfl ?_
    refine g_dup C dX4_add_12 13 rfl rfl ?_
    refine g_get C iw_X4_add_X4 0 rfl rfl 2 (by decide) (by decide +kernel) rfl rfl dX4_add_13 16 rfl ?_
    refine g_iconst (v := nI 1) C dX4_add_16 17 rfl (by decide) ?_
    refine g_iaddn C dX4_add_17 18 rfl ?_
    refine g_put C (ty := .int) iw_X4_add_X4 tyX4 tyX4_ok nmX4 0 rfl rfl 2 (by decide) (by decide +kernel) rfl rfl (by decide +kernel) rfl rfl (Nat.le_of_ble_eq_true rfl) dX4_add_18 21 rfl (ws' := [(v0, .inr (8, [.ref v1, .ref v2, .int (nI (vc + 1))]))]) rfl ?_
    refine g_aload_n C dX4_add_21 22 rfl rfl ?_
    refine g_get C iw_X4_add_X4 0 rfl rfl 2 (by decide) (by decide +kernel) rfl rfl dX4_add_22 25 rfl ?_
    refine g_iconst (v := nI 1) C dX4_add_25 26 rfl (by decide) ?_
    refine g_isubn C dX4_add_26 27 rfl (by omega) ?_
    exact g_iret C hQ (Nat.le_of_ble_eq_true rfl) (Nat.le_of_ble_eq_true rfl) dX4_add_27 () (by rw [show vc + 1 - 1 = vc by omega]) rfl
  · exact absurd c6 (by omega)

set_option maxHeartbeats 4000000 in
set_option maxRecDepth 100000 in
theorem c_X4_add_no (l : Launch) (D : va_G) (cI cJ cB cZ : ClassId) (sz : Nat) (v0 : Nat) (v1 : Nat) (v2 : Nat) (vc : Nat) (h : vc = 6) : Met l yX4_add wsX4_add ({ frames := 0, cells := 0, slots := 0, locals := 0 }) (va_Pc [.ref v0] (pW D (TY cI cJ cB cZ) [(v0, .inr (8, [.ref v1, .ref v2, .int (nI vc)]))] (fun _ => True) sz)) (va_Qi (fun (rv : Int32) (_ : Unit) => rv = (-1)) (qW D (TY cI cJ cB cZ) (va_A [(v0, .inr (8, [.ref v1, .ref v2, .int (nI vc)]))] sz) (fun _ => [(v0, .inr (8, [.ref v1, .ref v2, .int (nI vc)]))])) (va_A [(v0, .inr (8, [.ref v1, .ref v2, .int (nI vc)]))] sz)) 0 0 (va_A [(v0, .inr (8, [.ref v1, .ref v2, .int (nI vc)]))] sz) := by
  refine gx_met RX4 rfl (by decide) rfl (Nat.le_of_ble_eq_true rfl) ?_
  intro X hl hDx hAx C hQ hXP hsz hin
  subst hl; subst hDx
  rw [← hAx] at hQ
  refine g_lv [0] (lv' := [(0, .ref v0)]) rfl ?_
  refine g_aload_n C dX4_add_0 1 rfl rfl ?_
  refine g_get C iw_X4_add_X4 0 rfl rfl 2 (by decide) (by decide +kernel) rfl rfl dX4_add_1 4 rfl ?_
  refine g_bipush (v := nI 6) C dX4_add_4 6 rfl (by decide) ?_
  refine g_icmp_lt_n C dX4_add_6 11 9 (by decide) rfl (by omega) (by omega) (fun c6 => ?_) (fun c6 => ?_)
  · exact absurd c6 (by omega)
  · refine g_iconst (v := -1) C dX4_add_9 10 rfl (by decide) ?_
    exact g_iret C hQ (Nat.le_of_ble_eq_true rfl) (Nat.le_of_ble_eq_true rfl) dX4_add_10 () rfl rfl

theorem iw_X4_isOn_X4 : ∀ w ∈ wsX40, w ∈ wsX4_isOn := by decide +kernel
set_option maxHeartbeats 4000000 in
set_option maxRecDepth 100000 in
theorem c_X4_isOn (l : Launch) (D : va_G) (cI cJ cB cZ : ClassId) (sz : Nat) (v0 : Nat) (v1 : Nat) (v2 : Nat) (vc : Nat) (tw : Nat → Int32) (ow : Nat → Int32) (v : Nat) (w : Nat) (hv6 : v < 6) (hw : w < 24) : Met l yX4_isOn wsX4_isOn ({ frames := 1, cells := 0, slots := 0, locals := 21 }) (va_Pc [.ref v0, .int (nI v), .int (nI w)] (pW D (TY cI cJ cB cZ) [(v0, .inr (8, [.ref v1, .ref v2, .int (nI vc)])), (v1, .inl (cI, 6, .inl tw)), (v2, .inl (cI, 6, .inl ow))] (nst [(RX4, 26, yX6_hasBit, "HarnessRows")]) sz)) (va_Qi (fun (rv : Int32) (_ : Unit) => rv = bI (von tw ow w (v + 1))) (qW D (TY cI cJ cB cZ) (va_A [(v0, .inr (8, [.ref v1, .ref v2, .int (nI vc)])), (v1, .inl (cI, 6, .inl tw)), (v2, .inl (cI, 6, .inl ow))] sz) (fun _ => [(v0, .inr (8, [.ref v1, .ref v2, .int (nI vc)])), (v1, .inl (cI, 6, .inl tw)), (v2, .inl (cI, 6, .inl ow))])) (va_A [(v0, .inr (8, [.ref v1, .ref v2, .int (nI vc)])), (v1, .inl (cI, 6, .inl tw)), (v2, .inl (cI, 6, .inl ow))] sz)) 0 0 (va_A [(v0, .inr (8, [.ref v1, .ref v2, .int (nI vc)])), (v1, .inl (cI, 6, .inl tw)), (v2, .inl (cI, 6, .inl ow))] sz) := by
  refine gx_met RX4 rfl (by decide) rfl (Nat.le_of_ble_eq_true rfl) ?_
  intro X hl hDx hAx C hQ hXP hsz hin
  subst hl; subst hDx
  rw [← hAx] at hQ
  refine g_lv [0, 1, 2] (lv' := [(0, .ref v0), (1, .int (nI v)), (2, .int (nI w))]) rfl ?_
  refine g_iload_n C dX4_isOn_0 1 rfl rfl ?_
  refine g_istore_n C dX4_isOn_1 2 rfl (by decide) [1, 2, 3, 0] (lv' := [(0, .ref v0), (1, .int (nI v)), (2, .int (nI w)), (3, .int (nI v))]) rfl ?_
  have hloop : ∀ (k : Nat), k ≤ 6 → von tw ow w (v + 1) = von tw ow w k → gx X 0 0 [(v0, .inr (8, [.ref v1, .ref v2, .int (nI vc)])), (v1, .inl (cI, 6, .inl tw)), (v2, .inl (cI, 6, .inl ow))] 2 [(0, .ref v0), (1, .int (nI v)), (2, .int (nI w)), (3, .int (nI k + (-1)))] [] := by
    intro k
    induction k with
    | zero =>
      intro hk hv
      rw [show nI 0 + (-1) = -1 from rfl]
      refine g_iload_n C dX4_isOn_2 3 rfl rfl ?_
      refine g_if_lt C dX4_isOn_3 36 6 (by decide) rfl (fun c3 => ?_) (fun c3 => ?_)
      · refine g_iconst (v := nI 1) C dX4_isOn_36 37 rfl (by decide) ?_
        exact g_zret C hQ (Nat.le_of_ble_eq_true rfl) (Nat.le_of_ble_eq_true rfl) dX4_isOn_37 rfl () (by rw [hv]; rfl) rfl
      · exact absurd (by decide) c3
    | succ k ih =>
      intro hk hv
      rw [show nI (k + 1) + (-1) = nI k from pk_m1 k]
      refine g_iload_n C dX4_isOn_2 3 rfl rfl ?_
      refine g_if_lt_n C dX4_isOn_3 36 6 (by decide) rfl (by omega) ?_
      refine g_aload_n C dX4_isOn_6 7 rfl rfl ?_
      refine g_get C iw_X4_isOn_X4 0 rfl rfl 0 (by decide) (by decide +kernel) rfl rfl dX4_isOn_7 10 rfl ?_
      refine g_iload_n C dX4_isOn_10 11 rfl rfl ?_
      refine g_iald C 1 0 rfl rfl k rfl (by omega) (by decide) dX4_isOn_11 12 rfl ?_
      refine g_iload_n C dX4_isOn_12 13 rfl rfl ?_
      refine g_callSNi (As := [.int (tw k), .int (nI w)]) (rest := []) (wr := [(v0, .inr (8, [.ref v1, .ref v2, .int (nI vc)])), (v1, .inl (cI, 6, .inl tw)), (v2, .inl (cI, 6, .inl ow))]) (ws' := fun (_ : Unit) => [(v0, .inr (8, [.ref v1, .ref v2, .int (nI vc)])), (v1, .inl (cI, 6, .inl tw)), (v2, .inl (cI, 6, .inl ow))]) C (fun sz => c_X6_hasBit _ _ cI cJ cB cZ sz (tw k) w (by omega)) gx_XP0 2 ggX4_isOn_X6_hasBit (hXP (RX4, 26, yX6_hasBit, "HarnessRows") (List.mem_of_getElem? (i := 0) rfl)) (by decide +kernel) (by decide +kernel) rfl rfl rfl (by decide +kernel) ⟨Nat.le_of_ble_eq_true rfl, Nat.le_of_ble_eq_true rfl⟩ [] [0, 1, 2] [0, 1, 2] rfl (by decide) rfl (by decide) (by decide) (fun _ => rfl) (by decide) rfl rfl (Nat.le_of_ble_eq_true rfl) dX4_isOn_13 ⟨Nat.le_of_ble_eq_true rfl, Nat.le_of_ble_eq_true rfl⟩ 16 rfl (eqk ?_)
      refine g_if_eq_b C dX4_isOn_16 30 19 (by decide) rfl (fun c16 => ?_) (fun c16 => ?_)
      · refine g_iinc (v := nI k + (-1)) C dX4_isOn_30 33 rfl rfl rfl (by decide) [1, 2, 3, 0] (lv' := [(0, .ref v0), (1, .int (nI v)), (2, .int (nI w)), (3, .int (nI k + (-1)))]) rfl ?_
        refine g_goto C dX4_isOn_33 2 (by decide) ?_
        exact ih (by omega) (hv.trans (by rw [von, if_neg (by rw [c16]; decide)]))
      · refine g_aload_n C dX4_isOn_19 20 rfl rfl ?_
        refine g_get C iw_X4_isOn_X4 0 rfl rfl 1 (by decide) (by decide +kernel) rfl rfl dX4_isOn_20 23 rfl ?_
        refine g_iload_n C dX4_isOn_23 24 rfl rfl ?_
        refine g_iald C 2 0 rfl rfl k rfl (by omega) (by decide) dX4_isOn_24 25 rfl ?_
        refine g_iload_n C dX4_isOn_25 26 rfl rfl ?_
        refine g_callSNi (As := [.int (ow k), .int (nI w)]) (rest := []) (wr := [(v0, .inr (8, [.ref v1, .ref v2, .int (nI vc)])), (v1, .inl (cI, 6, .inl tw)), (v2, .inl (cI, 6, .inl ow))]) (ws' := fun (_ : Unit) => [(v0, .inr (8, [.ref v1, .ref v2, .int (nI vc)])), (v1, .inl (cI, 6, .inl tw)), (v2, .inl (cI, 6, .inl ow))]) C (fun sz => c_X6_hasBit _ _ cI cJ cB cZ sz (ow k) w (by omega)) gx_XP0 2 ggX4_isOn_X6_hasBit (hXP (RX4, 26, yX6_hasBit, "HarnessRows") (List.mem_of_getElem? (i := 0) rfl)) (by decide +kernel) (by decide +kernel) rfl rfl rfl (by decide +kernel) ⟨Nat.le_of_ble_eq_true rfl, Nat.le_of_ble_eq_true rfl⟩ [] [0, 1, 2] [0, 1, 2] rfl (by decide) rfl (by decide) (by decide) (fun _ => rfl) (by decide) rfl rfl (Nat.le_of_ble_eq_true rfl) dX4_isOn_26 ⟨Nat.le_of_ble_eq_true rfl, Nat.le_of_ble_eq_true rfl⟩ 29 rfl (eqk ?_)
        exact g_zret C hQ (Nat.le_of_ble_eq_true rfl) (Nat.le_of_ble_eq_true rfl) dX4_isOn_29 (bI_nar _) () (by rw [hv, von, if_pos c16]) rfl
  refine g_lv [0, 1, 2, 3] (lv' := [(0, .ref v0), (1, .int (nI v)), (2, .int (nI w)), (3, .int (nI (v + 1) + (-1)))]) (by rw [show nI (v + 1) + (-1) = nI v from pk_m1 v]; rfl) ?_
  exact hloop (v + 1) (by omega) rfl

theorem iw_X4_tellWire_X4 : ∀ w ∈ wsX40, w ∈ wsX4_tellWire := by decide +kernel
set_option maxHeartbeats 4000000 in
set_option maxRecDepth 100000 in
theorem c_X4_tellWire (l : Launch) (D : va_G) (cI cJ cB cZ : ClassId) (sz : Nat) (v0 : Nat) (v1 : Nat) (v2 : Nat) (vc : Nat) (tw : Nat → Int32) (ow : Nat → Int32) (v : Nat) (w : Nat) (on : Bool) (hv6 : v < 6) (hw : w < 24) : Met l yX4_tellWire wsX4_tellWire ({ frames := 2, cells := 0, slots := 0, locals := 44 }) (va_Pc [.ref v0, .int (nI v), .int (nI w), .int (bI on)] (pW D (TY cI cJ cB cZ) [(v0, .inr (8, [.ref v1, .ref v2, .int (nI vc)])), (v1, .inl (cI, 6, .inl tw)), (v2, .inl (cI, 6, .inl ow))] (nst [(RX4, 26, yX6_hasBit, "HarnessRows")]) sz)) (va_Qi (fun (rv : Int32) (_ : Unit) => rv = bI (!(decide (von tw ow w (v + 1) = on)))) (qW D (TY cI cJ cB cZ) (va_A [(v0, .inr (8, [.ref v1, .ref v2, .int (nI vc)])), (v1, .inl (cI, 6, .inl tw)), (v2, .inl (cI, 6, .inl ow))] sz) (fun _ => [(v0, .inr (8, [.ref v1, .ref v2, .int (nI vc)])), (v1, .inl (cI, 6, .inl (upd tw v (tw v ||| (nI 1 <<< (nI w &&& 31)))))), (v2, .inl (cI, 6, .inl (owput ow v w on)))])) (va_A [(v0, .inr (8, [.ref v1, .ref v2, .int (nI vc)])), (v1, .inl (cI, 6, .inl tw)), (v2, .inl (cI, 6, .inl ow))] sz)) 0 0 (va_A [(v0, .inr (8, [.ref v1, .ref v2, .int (nI vc)])), (v1, .inl (cI, 6, .inl tw)), (v2, .inl (cI, 6, .inl ow))] sz) := by
  refine gx_met RX4 rfl (by decide) rfl (Nat.le_of_ble_eq_true rfl) ?_
  intro X hl hDx hAx C hQ hXP hsz hin
  subst hl; subst hDx
  rw [← hAx] at hQ
  refine g_lv [0, 1, 2, 3] (lv' := [(0, .ref v0), (1, .int (nI v)), (2, .int (nI w)), (3, .int (bI on))]) rfl ?_
  refine g_aload_n C dX4_tellWire_0 1 rfl rfl ?_
  refine g_iload_n C dX4_tellWire_1 2 rfl rfl ?_
  refine g_iload_n C dX4_tellWire_2 3 rfl rfl ?_
  refine g_callVi (ci := 8) (q0 := 0) (As := [.int (nI v), .int (nI w)]) (rest := []) (wr := []) (ws' := fun (_ : Unit) => [(v0, .inr (8, [.ref v1, .ref v2, .int (nI vc)])), (v1, .inl (cI, 6, .inl tw)), (v2, .inl (cI, 6, .inl ow))]) C (fun sz => c_X4_isOn _ _ cI cJ cB cZ sz v0 v1 v2 vc tw ow v w (by omega) (by omega)) (gx_nst hXP (by decide +kernel)) 2 gX4_tellWire_X4_isOn rfl rfl rfl (by decide +kernel) ⟨Nat.le_of_ble_eq_true rfl, Nat.le_of_ble_eq_true rfl⟩ rfl rfl [0, 1, 2] [] [0, 1, 2] rfl (by decide) rfl (by decide) (by decide) (fun _ => rfl) (by decide) rfl rfl (Nat.le_of_ble_eq_true rfl) dX4_tellWire_3 ⟨Nat.le_of_ble_eq_true rfl, Nat.le_of_ble_eq_true rfl⟩ 6 rfl (eqk ?_)
  refine g_istore C dX4_tellWire_6 8 rfl (by decide) [1, 2, 3, 4, 0] (lv' := [(0, .ref v0), (1, .int (nI v)), (2, .int (nI w)), (3, .int (bI on)), (4, .int (bI (von tw ow w (v + 1))))]) rfl ?_
  refine g_iconst (v := nI 1) C dX4_tellWire_8 9 rfl (by decide) ?_
  refine g_iload_n C dX4_tellWire_9 10 rfl rfl ?_
  refine g_ishl C dX4_tellWire_10 11 rfl ?_
  refine g_istore C dX4_tellWire_11 13 rfl (by decide) [1, 2, 3, 4, 5, 0] (lv' := [(0, .ref v0), (1, .int (nI v)), (2, .int (nI w)), (3, .int (bI on)), (4, .int (bI (von tw ow w (v + 1)))), (5, .int ((nI 1) <<< (nI w &&& 31)))]) rfl ?_
  refine g_aload_n C dX4_tellWire_13 14 rfl rfl ?_
  refine g_get C iw_X4_tellWire_X4 0 rfl rfl 0 (by decide) (by decide +kernel) rfl rfl dX4_tellWire_14 17 rfl ?_
  refine g_iload_n C dX4_tellWire_17 18 rfl rfl ?_
  refine g_dup2_11 C dX4_tellWire_18 19 rfl rfl rfl ?_
  refine g_iald C 1 0 rfl rfl v rfl (by omega) (by decide) dX4_tellWire_19 20 rfl ?_
  refine g_iload C dX4_tellWire_20 22 rfl rfl ?_
  refine g_ior C dX4_tellWire_22 23 rfl ?_
  refine g_iast C 1 0 rfl rfl v rfl (by omega) (by decide) dX4_tellWire_23 24 rfl (ws' := [(v0, .inr (8, [.ref v1, .ref v2, .int (nI vc)])), (v1, .inl (cI, 6, .inl (upd tw v ((tw v) ||| ((nI 1) <<< (nI w &&& 31)))))), (v2, .inl (cI, 6, .inl ow))]) rfl ?_
  refine g_aload_n C dX4_tellWire_24 25 rfl rfl ?_
  refine g_get C iw_X4_tellWire_X4 0 rfl rfl 1 (by decide) (by decide +kernel) rfl rfl dX4_tellWire_25 28 rfl ?_
  refine g_iload_n C dX4_tellWire_28 29 rfl rfl ?_
  refine g_iload_n C dX4_tellWire_29 30 rfl rfl ?_
  refine g_if_eq_b C dX4_tellWire_30 45 33 (by decide) rfl (fun c30 => ?_) (fun c30 => ?_)
  · refine g_aload_n C dX4_tellWire_45 46 rfl rfl ?_
    refine g_get C iw_X4_tellWire_X4 0 rfl rfl 1 (by decide) (by decide +kernel) rfl rfl dX4_tellWire_46 49 rfl ?_
    refine g_iload_n C dX4_tellWire_49 50 rfl rfl ?_
    refine g_iald C 2 0 rfl rfl v rfl (by omega) (by decide) dX4_tellWire_50 51 rfl ?_
    refine g_iload C dX4_tellWire_51 53 rfl rfl ?_
    refine g_iconst (v := -1) C dX4_tellWire_53 54 rfl (by decide) ?_
    refine g_ixor C dX4_tellWire_54 55 rfl ?_
    refine g_iand C dX4_tellWire_55 56 rfl ?_
    refine g_iast C 2 0 rfl rfl v rfl (by omega) (by decide) dX4_tellWire_56 57 rfl (ws' := [(v0, .inr (8, [.ref v1, .ref v2, .int (nI vc)])), (v1, .inl (cI, 6, .inl (upd tw v ((tw v) ||| ((nI 1) <<< (nI w &&& 31)))))), (v2, .inl (cI, 6, .inl (upd ow v ((ow v) &&& (((nI 1) <<< (nI w &&& 31)) ^^^ (-1))))))]) rfl ?_
    refine g_iload C dX4_tellWire_57 59 rfl rfl ?_
    refine g_iload_n C dX4_tellWire_59 60 rfl rfl ?_
    refine g_icmp_eq C dX4_tellWire_60 67 63 (by decide) rfl (fun c60 => ?_) (fun c60 => ?_)
    · refine g_iconst (v := nI 0) C dX4_tellWire_67 68 rfl (by decide) ?_
      exact g_zret C hQ (Nat.le_of_ble_eq_true rfl) (Nat.le_of_ble_eq_true rfl) dX4_tellWire_68 rfl () (by rw [bI_inj] at c60; simp [bI, nI_one, nI_0, c60]) (by simp [owput, c30])
    · refine g_iconst (v := nI 1) C dX4_tellWire_63 64 rfl (by decide) ?_
      refine g_goto C dX4_tellWire_64 68 (by decide) ?_
      exact g_zret C hQ (Nat.le_of_ble_eq_true rfl) (Nat.le_of_ble_eq_true rfl) dX4_tellWire_68 rfl () (by rw [bI_inj] at c60; simp [bI, nI_one, nI_0, c60]) (by simp [owput, c30])
  · refine g_aload_n C dX4_tellWire_33 34 rfl rfl ?_
    refine g_get C iw_X4_tellWire_X4 0 rfl rfl 1 (by decide) (by decide +kernel) rfl rfl dX4_tellWire_34 37 rfl ?_
    refine g_iload_n C dX4_tellWire_37 38 rfl rfl ?_
    refine g_iald C 2 0 rfl rfl v rfl (by omega) (by decide) dX4_tellWire_38 39 rfl ?_
    refine g_iload C dX4_tellWire_39 41 rfl rfl ?_
    refine g_ior C dX4_tellWire_41 42 rfl ?_
    refine g_goto C dX4_tellWire_42 56 (by decide) ?_
    refine g_iast C 2 0 rfl rfl v rfl (by omega) (by decide) dX4_tellWire_56 57 rfl (ws' := [(v0, .inr (8, [.ref v1, .ref v2, .int (nI vc)])), (v1, .inl (cI, 6, .inl (upd tw v ((tw v) ||| ((nI 1) <<< (nI w &&& 31)))))), (v2, .inl (cI, 6, .inl (upd ow v ((ow v) ||| ((nI 1) <<< (nI w &&& 31))))))]) rfl ?_
    refine g_iload C dX4_tellWire_57 59 rfl rfl ?_
    refine g_iload_n C dX4_tellWire_59 60 rfl rfl ?_
    refine g_icmp_eq C dX4_tellWire_60 67 63 (by decide) rfl (fun c60 => ?_) (fun c60 => ?_)
    · refine g_iconst (v := nI 0) C dX4_tellWire_67 68 rfl (by decide) ?_
      exact g_zret C hQ (Nat.le_of_ble_eq_true rfl) (Nat.le_of_ble_eq_true rfl) dX4_tellWire_68 rfl () (by rw [bI_inj] at c60; simp [bI, nI_one, nI_0, c60]) (by simp [owput, c30])
    · refine g_iconst (v := nI 1) C dX4_tellWire_63 64 rfl (by decide) ?_
      refine g_goto C dX4_tellWire_64 68 (by decide) ?_
      exact g_zret C hQ (Nat.le_of_ble_eq_true rfl) (Nat.le_of_ble_eq_true rfl) dX4_tellWire_68 rfl () (by rw [bI_inj] at c60; simp [bI, nI_one, nI_0, c60]) (by simp [owput, c30])

theorem iw_X4_wireOff_X4 : ∀ w ∈ wsX40, w ∈ wsX4_wireOff := by decide +kernel
set_option maxHeartbeats 4000000 in
set_option maxRecDepth 100000 in
theorem c_X4_wireOff (l : Launch) (D : va_G) (cI cJ cB cZ : ClassId) (sz : Nat) (v0 : Nat) (v1 : Nat) (v2 : Nat) (vc : Nat) (tw : Nat → Int32) (ow : Nat → Int32) (k : Nat) (n : Nat) (hk : k < 2147483648) (hn : n ≤ 24) (h0 : 0 < vc) (h6 : vc ≤ 6) : Met l yX4_wireOff wsX4_wireOff ({ frames := 2, cells := 0, slots := 0, locals := 44 }) (va_Pc [.ref v0, .int (nI k), .int (nI n)] (pW D (TY cI cJ cB cZ) [(v0, .inr (8, [.ref v1, .ref v2, .int (nI vc)])), (v1, .inl (cI, 6, .inl tw)), (v2, .inl (cI, 6, .inl ow))] (nst [(RX4, 26, yX6_hasBit, "HarnessRows")]) sz)) (va_Qi (fun (rv : Int32) (_ : Unit) => rv = oI (wfind (koff (fun i => von tw ow i vc) k) n)) (qW D (TY cI cJ cB cZ) (va_A [(v0, .inr (8, [.ref v1, .ref v2, .int (nI vc)])), (v1, .inl (cI, 6, .inl tw)), (v2, .inl (cI, 6, .inl ow))] sz) (fun _ => [(v0, .inr (8, [.ref v1, .ref v2, .int (nI vc)])), (v1, .inl (cI, 6, .inl tw)), (v2, .inl (cI, 6, .inl ow))])) (va_A [(v0, .inr (8, [.ref v1, .ref v2, .int (nI vc)])), (v1, .inl (cI, 6, .inl tw)), (v2, .inl (cI, 6, .inl ow))] sz)) 0 0 (va_A [(v0, .inr (8, [.ref v1, .ref v2, .int (nI vc)])), (v1, .inl (cI, 6, .inl tw)), (v2, .inl (cI, 6, .inl ow))] sz) := by
  refine gx_met RX4 rfl (by decide) rfl (Nat.le_of_ble_eq_true rfl) ?_
  intro X hl hDx hAx C hQ hXP hsz hin
  subst hl; subst hDx
  rw [← hAx] at hQ
  refine g_lv [0, 1, 2] (lv' := [(0, .ref v0), (1, .int (nI k)), (2, .int (nI n))]) rfl ?_
  refine g_iload_n C dX4_wireOff_0 1 rfl rfl ?_
  refine g_if_lt_n C dX4_wireOff_1 11 4 (by decide) rfl (by omega) ?_
  refine g_aload_n C dX4_wireOff_4 5 rfl rfl ?_
  refine g_get C iw_X4_wireOff_X4 0 rfl rfl 2 (by decide) (by decide +kernel) rfl rfl dX4_wireOff_5 8 rfl ?_
  refine g_if_ne_n C dX4_wireOff_8 13 11 (by decide) rfl (by omega) (fun c8 => ?_) (fun c8 => ?_)
  · refine g_iconst (v := nI 0) C dX4_wireOff_13 14 rfl (by decide) ?_
    refine g_istore_n C dX4_wireOff_14 15 rfl (by decide) [1, 2, 3, 0] (lv' := [(0, .ref v0), (1, .int (nI k)), (2, .int (nI n)), (3, .int (nI 0))]) rfl ?_
    refine g_iconst (v := nI 0) C dX4_wireOff_15 16 rfl (by decide) ?_
    refine g_istore C dX4_wireOff_16 18 rfl (by decide) [1, 2, 3, 4, 0] (lv' := [(0, .ref v0), (1, .int (nI k)), (2, .int (nI n)), (3, .int (nI 0)), (4, .int (nI 0))]) rfl ?_
    have hloop : ∀ (fuel i : Nat), i ≤ n → n + 1 ≤ i + fuel → (wfind (koff (fun i => von tw ow i vc) k) i = none) → gx X 0 0 [(v0, .inr (8, [.ref v1, .ref v2, .int (nI vc)])), (v1, .inl (cI, 6, .inl tw)), (v2, .inl (cI, 6, .inl ow))] 18 [(0, .ref v0), (1, .int (nI k)), (2, .int (nI n)), (3, .int (nI (cnt (fun i => von tw ow i vc) i))), (4, .int (nI i))] [] := by
      intro fuel
      induction fuel with
      | zero => intro i h1 h2; exact absurd h2 (by omega)
      | succ fuel hloop_ih =>
        intro i hle hfu hno
        refine g_iload C dX4_wireOff_18 20 rfl rfl ?_
        refine g_iload_n C dX4_wireOff_20 21 rfl rfl ?_
        refine g_icmp_ge_n C dX4_wireOff_21 56 24 (by decide) rfl (by omega) (by omega) (fun c21 => ?_) (fun c21 => ?_)
        · have e_i : n = i := by omega
          subst e_i
          refine g_iconst (v := -1) C dX4_wireOff_56 57 rfl (by decide) ?_
          exact g_iret C hQ (Nat.le_of_ble_eq_true rfl) (Nat.le_of_ble_eq_true rfl) dX4_wireOff_57 () (by rw [hno]; rfl) rfl
        · have hc := cnt_le (fun i => von tw ow i vc) i
          refine g_aload_n C dX4_wireOff_24 25 rfl rfl ?_
          refine g_aload_n C dX4_wireOff_25 26 rfl rfl ?_
          refine g_get C iw_X4_wireOff_X4 0 rfl rfl 2 (by decide) (by decide +kernel) rfl rfl dX4_wireOff_26 29 rfl ?_
          refine g_iconst (v := nI 1) C dX4_wireOff_29 30 rfl (by decide) ?_
          refine g_isubn C dX4_wireOff_30 31 rfl (by omega) ?_
          refine g_iload C dX4_wireOff_31 33 rfl rfl ?_
          refine g_callVi (ci := 8) (q0 := 0) (As := [.int (nI (vc - 1)), .int (nI i)]) (rest := []) (wr := []) (ws' := fun (_ : Unit) => [(v0, .inr (8, [.ref v1, .ref v2, .int (nI vc)])), (v1, .inl (cI, 6, .inl tw)), (v2, .inl (cI, 6, .inl ow))]) C (fun sz => c_X4_isOn _ _ cI cJ cB cZ sz v0 v1 v2 vc tw ow (vc - 1) i (by omega) (by omega)) (gx_nst hXP (by decide +kernel)) 2 gX4_wireOff_X4_isOn rfl rfl rfl (by decide +kernel) ⟨Nat.le_of_ble_eq_true rfl, Nat.le_of_ble_eq_true rfl⟩ rfl rfl [0, 1, 2] [] [0, 1, 2] rfl (by decide) rfl (by decide) (by decide) (fun _ => rfl) (by decide) rfl rfl (Nat.le_of_ble_eq_true rfl) dX4_wireOff_33 ⟨Nat.le_of_ble_eq_true rfl, Nat.le_of_ble_eq_true rfl⟩ 36 rfl (eqk ?_)
          refine g_if_ne_b C dX4_wireOff_36 50 39 (by decide) rfl (fun c36 => ?_) (fun c36 => ?_)
          · rw [show vc - 1 + 1 = vc by omega] at c36
            refine g_iinc (v := nI (i + 1)) C dX4_wireOff_50 53 rfl rfl (nI_add i 1) (by decide) [1, 2, 3, 4, 0] (lv' := [(0, .ref v0), (1, .int (nI k)), (2, .int (nI n)), (3, .int (nI (cnt (fun i => von tw ow i vc) i))), (4, .int (nI (i + 1)))]) rfl ?_
            refine g_goto C dX4_wireOff_53 18 (by decide) ?_
            rw [show cnt (fun i => von tw ow i vc) i = cnt (fun i => von tw ow i vc) (i + 1) from by simp [cnt, c36]]
            exact hloop_ih (i + 1) (by omega) (by omega) (wfind_next hno (by simp [koff, c36]))
          · rw [show vc - 1 + 1 = vc by omega] at c36
            refine g_iload_n C dX4_wireOff_39 40 rfl rfl ?_
            refine g_iload_n C dX4_wireOff_40 41 rfl rfl ?_
            refine g_icmp_ne_n C dX4_wireOff_41 47 44 (by decide) rfl (by omega) (by omega) (fun c41 => ?_) (fun c41 => ?_)
            · refine g_iinc (v := nI ((cnt (fun i => von tw ow i vc) i) + 1)) C dX4_wireOff_47 50 rfl rfl (nI_add (cnt (fun i => von tw ow i vc) i) 1) (by decide) [1, 2, 3, 0, 4] (lv' := [(0, .ref v0), (1, .int (nI k)), (2, .int (nI n)), (3, .int (nI ((cnt (fun i => von tw ow i vc) i) + 1))), (4, .int (nI i))]) rfl ?_
              refine g_iinc (v := nI (i + 1)) C dX4_wireOff_50 53 rfl rfl (nI_add i 1) (by decide) [1, 2, 3, 4, 0] (lv' := [(0, .ref v0), (1, .int (nI k)), (2, .int (nI n)), (3, .int (nI ((cnt (fun i => von tw ow i vc) i) + 1))), (4, .int (nI (i + 1)))]) rfl ?_
              refine g_goto C dX4_wireOff_53 18 (by decide) ?_
              rw [show cnt (fun i => von tw ow i vc) i + 1 = cnt (fun i => von tw ow i vc) (i + 1) from by simp [cnt, c36]]
              exact hloop_ih (i + 1) (by omega) (by omega) (wfind_next hno (by simp [koff, c36, c41]))
            · refine g_iload C dX4_wireOff_44 46 rfl rfl ?_
              exact g_iret C hQ (Nat.le_of_ble_eq_true rfl) (Nat.le_of_ble_eq_true rfl) dX4_wireOff_46 () (by rw [wfind_at hno (by simp [koff, c36, c41]) (by omega)]; rfl) rfl
    exact hloop (n + 1) 0 (by omega) (by omega) rfl
  · exact absurd c8 (by omega)

set_option maxHeartbeats 4000000 in
set_option maxRecDepth 100000 in
theorem c_X4_wireOff_neg (l : Launch) (D : va_G) (cI cJ cB cZ : ClassId) (sz : Nat) (v0 : Nat) (v1 : Nat) (v2 : Nat) (vc : Nat) (tw : Nat → Int32) (ow : Nat → Int32) (k : Int32) (n : Nat) (hk : k < 0) : Met l yX4_wireOff wsX4_wireOff ({ frames := 0, cells := 0, slots := 0, locals := 0 }) (va_Pc [.ref v0, .int k, .int (nI n)] (pW D (TY cI cJ cB cZ) [(v0, .inr (8, [.ref v1, .ref v2, .int (nI vc)])), (v1, .inl (cI, 6, .inl tw)), (v2, .inl (cI, 6, .inl ow))] (nst [(RX4, 26, yX6_hasBit, "HarnessRows")]) sz)) (va_Qi (fun (rv : Int32) (_ : Unit) => rv = (-1)) (qW D (TY cI cJ cB cZ) (va_A [(v0, .inr (8, [.ref v1, .ref v2, .int (nI vc)])), (v1, .inl (cI, 6, .inl tw)), (v2, .inl (cI, 6, .inl ow))] sz) (fun _ => [(v0, .inr (8, [.ref v1, .ref v2, .int (nI vc)])), (v1, .inl (cI, 6, .inl tw)), (v2, .inl (cI, 6, .inl ow))])) (va_A [(v0, .inr (8, [.ref v1, .ref v2, .int (nI vc)])), (v1, .inl (cI, 6, .inl tw)), (v2, .inl (cI, 6, .inl ow))] sz)) 0 0 (va_A [(v0, .inr (8, [.ref v1, .ref v2, .int (nI vc)])), (v1, .inl (cI, 6, .inl tw)), (v2, .inl (cI, 6, .inl ow))] sz) := by
  refine gx_met RX4 rfl (by decide) rfl (Nat.le_of_ble_eq_true rfl) ?_
  intro X hl hDx hAx C hQ hXP hsz hin
  subst hl; subst hDx
  rw [← hAx] at hQ
  refine g_lv [0, 1, 2] (lv' := [(0, .ref v0), (1, .int k), (2, .int (nI n))]) rfl ?_
  refine g_iload_n C dX4_wireOff_0 1 rfl rfl ?_
  refine g_if_lt C dX4_wireOff_1 11 4 (by decide) rfl (fun c1 => ?_) (fun c1 => ?_)
  · refine g_iconst (v := -1) C dX4_wireOff_11 12 rfl (by decide) ?_
    exact g_iret C hQ (Nat.le_of_ble_eq_true rfl) (Nat.le_of_ble_eq_true rfl) dX4_wireOff_12 () rfl rfl
  · exact absurd hk c1

set_option maxHeartbeats 4000000 in
set_option maxRecDepth 100000 in
theorem c_X4_wireOff_0 (l : Launch) (D : va_G) (cI cJ cB cZ : ClassId) (sz : Nat) (v0 : Nat) (v1 : Nat) (v2 : Nat) (vc : Nat) (tw : Nat → Int32) (ow : Nat → Int32) (k : Int32) (n : Nat) (h0 : vc = 0) : Met l yX4_wireOff wsX4_wireOff ({ frames := 0, cells := 0, slots := 0, locals := 0 }) (va_Pc [.ref v0, .int k, .int (nI n)] (pW D (TY cI cJ cB cZ) [(v0, .inr (8, [.ref v1, .ref v2, .int (nI vc)])), (v1, .inl (cI, 6, .inl tw)), (v2, .inl (cI, 6, .inl ow))] (nst [(RX4, 26, yX6_hasBit, "HarnessRows")]) sz)) (va_Qi (fun (rv : Int32) (_ : Unit) => rv = (-1)) (qW D (TY cI cJ cB cZ) (va_A [(v0, .inr (8, [.ref v1, .ref v2, .int (nI vc)])), (v1, .inl (cI, 6, .inl tw)), (v2, .inl (cI, 6, .inl ow))] sz) (fun _ => [(v0, .inr (8, [.ref v1, .ref v2, .int (nI vc)])), (v1, .inl (cI, 6, .inl tw)), (v2, .inl (cI, 6, .inl ow))])) (va_A [(v0, .inr (8, [.ref v1, .ref v2, .int (nI vc)])), (v1, .inl (cI, 6, .inl tw)), (v2, .inl (cI, 6, .inl ow))] sz)) 0 0 (va_A [(v0, .inr (8, [.ref v1, .ref v2, .int (nI vc)])), (v1, .inl (cI, 6, .inl tw)), (v2, .inl (cI, 6, .inl ow))] sz) := by
  refine gx_met RX4 rfl (by decide) rfl (Nat.le_of_ble_eq_true rfl) ?_
  intro X hl hDx hAx C hQ hXP hsz hin
  subst hl; subst hDx
  rw [← hAx] at hQ
  refine g_lv [0, 1, 2] (lv' := [(0, .ref v0), (1, .int k), (2, .int (nI n))]) rfl ?_
  refine g_iload_n C dX4_wireOff_0 1 rfl rfl ?_
  refine g_if_lt C dX4_wireOff_1 11 4 (by decide) rfl (fun c1 => ?_) (fun c1 => ?_)
  · refine g_iconst (v := -1) C dX4_wireOff_11 12 rfl (by decide) ?_
    exact g_iret C hQ (Nat.le_of_ble_eq_true rfl) (Nat.le_of_ble_eq_true rfl) dX4_wireOff_12 () rfl rfl
  · refine g_aload_n C dX4_wireOff_4 5 rfl rfl ?_
    refine g_get C iw_X4_wireOff_X4 0 rfl rfl 2 (by decide) (by decide +kernel) rfl rfl dX4_wireOff_5 8 rfl ?_
    refine g_if_ne_n C dX4_wireOff_8 13 11 (by decide) rfl (by omega) (fun c8 => ?_) (fun c8 => ?_)
    · exact absurd c8 (by omega)
    · refine g_iconst (v := -1) C dX4_wireOff_11 12 rfl (by decide) ?_
      exact g_iret C hQ (Nat.le_of_ble_eq_true rfl) (Nat.le_of_ble_eq_true rfl) dX4_wireOff_12 () rfl rfl

theorem iw_X4_init_X4 : ∀ w ∈ wsX40, w ∈ wsX4_init := by decide +kernel
set_option maxHeartbeats 4000000 in
set_option maxRecDepth 100000 in
theorem c_X4_init (l : Launch) (D : va_G) (cI cJ cB cZ : ClassId) (sz : Nat) (v0 : Nat)  : Met l yX4_init wsX4_init ({ frames := 1, cells := 2, slots := 12, locals := 12 }) (va_Pc [.ref v0] (pW D (TY cI cJ cB cZ) [(v0, .inr (8, [.null, .null, .int 0]))] (fun _ => True) sz)) (va_Qv (fun (u : Nat × Nat) => True) (qW D (TY cI cJ cB cZ) (va_A [(v0, .inr (8, [.null, .null, .int 0]))] sz) (fun u => [(v0, .inr (8, [.ref u.1, .ref u.2, .int (nI 0)])), (u.1, .inl (cI, 6, .inl (fun _ => 0))), (u.2, .inl (cI, 6, .inl (fun _ => 0)))])) (va_A [(v0, .inr (8, [.null, .null, .int 0]))] sz)) 2 12 (va_A [(v0, .inr (8, [.null, .null, .int 0]))] sz) := by
  refine gx_met RX4 rfl (by decide) rfl (Nat.le_of_ble_eq_true rfl) ?_
  intro X hl hDx hAx C hQ hXP hsz hin
  subst hl; subst hDx
  rw [← hAx] at hQ
  refine g_lv [0] (lv' := [(0, .ref v0)]) rfl ?_
  refine g_aload_n C dX4_init_0 1 rfl rfl ?_
  refine g_objInit C (by decide +kernel) (by decide +kernel) (by first | exact List.mem_of_getElem? (i := 3) rfl | exact List.mem_of_getElem? (i := 2) rfl | exact List.mem_of_getElem? (i := 4) rfl | exact List.mem_of_getElem? (i := 5) rfl) dX4_init_1 4 rfl (Nat.le_of_ble_eq_true rfl) (Nat.le_of_ble_eq_true rfl) ?_
  refine g_aload_n C dX4_init_4 5 rfl rfl ?_
  refine g_bipush (v := nI 6) C dX4_init_5 7 rfl (by decide) ?_
  refine g_newa_int C 0 rfl (by decide) (by decide +kernel) dX4_init_7 9 rfl (Nat.le_of_ble_eq_true rfl) (Nat.le_of_ble_eq_true rfl) (fun q7 => ?_)
  refine g_ws (ws' := [(v0, .inr (8, [.null, .null, .int 0])), (q7, .inl (cI, 6, .inl (fun _ => 0)))]) rfl ?_
  refine g_putF C (hI := hin rfl) (ty := .array .int) iw_X4_init_X4 tyX4 tyX4_ok nmX4 0 rfl rfl 0 (by decide) (by decide +kernel) rfl rfl rfl (by decide +kernel) rfl rfl (Nat.le_of_ble_eq_true rfl) dX4_init_9 12 rfl (ws' := [(v0, .inr (8, [.ref q7, .null, .int 0])), (q7, .inl (cI, 6, .inl (fun _ => 0)))]) rfl ?_
  refine g_aload_n C dX4_init_12 13 rfl rfl ?_
  refine g_bipush (v := nI 6) C dX4_init_13 15 rfl (by decide) ?_
  refine g_newa_int C 0 rfl (by decide) (by decide +kernel) dX4_init_15 17 rfl (Nat.le_of_ble_eq_true rfl) (Nat.le_of_ble_eq_true rfl) (fun q15 => ?_)
  refine g_ws (ws' := [(v0, .inr (8, [.ref q7, .null, .int 0])), (q7, .inl (cI, 6, .inl (fun _ => 0))), (q15, .inl (cI, 6, .inl (fun _ => 0)))]) rfl ?_
  refine g_putF C (hI := hin rfl) (ty := .array .int) iw_X4_init_X4 tyX4 tyX4_ok nmX4 0 rfl rfl 1 (by decide) (by decide +kernel) rfl rfl rfl (by decide +kernel) rfl rfl (Nat.le_of_ble_eq_true rfl) dX4_init_17 20 rfl (ws' := [(v0, .inr (8, [.ref q7, .ref q15, .int 0])), (q7, .inl (cI, 6, .inl (fun _ => 0))), (q15, .inl (cI, 6, .inl (fun _ => 0)))]) rfl ?_
  refine g_aload_n C dX4_init_20 21 rfl rfl ?_
  refine g_iconst (v := nI 0) C dX4_init_21 22 rfl (by decide) ?_
  refine g_put C (ty := .int) iw_X4_init_X4 tyX4 tyX4_ok nmX4 0 rfl rfl 2 (by decide) (by decide +kernel) rfl rfl (by decide +kernel) rfl rfl (Nat.le_of_ble_eq_true rfl) dX4_init_22 25 rfl (ws' := [(v0, .inr (8, [.ref q7, .ref q15, .int (nI 0)])), (q7, .inl (cI, 6, .inl (fun _ => 0))), (q15, .inl (cI, 6, .inl (fun _ => 0)))]) rfl ?_
  exact g_vret C hQ (Nat.le_of_ble_eq_true rfl) (Nat.le_of_ble_eq_true rfl) dX4_init_25 (q7, q15) trivial (by first | (dsimp only; done) | rfl)
