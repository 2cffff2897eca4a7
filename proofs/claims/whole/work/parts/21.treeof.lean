theorem iw_X3_treeOf_X3 : ∀ w ∈ wsX30, w ∈ wsX3_treeOf := by decide +kernel
set_option maxHeartbeats 4000000 in
set_option maxRecDepth 100000 in
theorem c_X3_treeOf (l : Launch) (D : va_G) (cI cJ cB cZ : ClassId) (sz : Nat) (t0 : Nat) (t1 : Nat) (t2 : Nat) (t3 : Nat) (t4 : Nat) (t5 : Nat) (nd : Nat) (bd : Nat) (wy : Nat → Int64) (a : Nat) (ha : a < 16) (hd : nd ≤ 16) : Met l yX3_treeOf wsX3_treeOf ({ frames := 1, cells := 0, slots := 0, locals := 22 }) (va_Pc [.ref t0, .int (nI a)] (pW D (TY cI cJ cB cZ) [(t0, .inr (7, [.ref t1, .ref t2, .ref t3, .ref t4, .ref t5, .int (nI nd), .int (nI bd)])), (t5, .inl (cJ, 256, .inr (.inl wy)))] (fun _ => True) sz)) (va_Qi (fun (rv : Int32) (_ : Unit) => rv = tb wy a nd) (qW D (TY cI cJ cB cZ) (va_A [(t0, .inr (7, [.ref t1, .ref t2, .ref t3, .ref t4, .ref t5, .int (nI nd), .int (nI bd)])), (t5, .inl (cJ, 256, .inr (.inl wy)))] sz) (fun _ => [(t0, .inr (7, [.ref t1, .ref t2, .ref t3, .ref t4, .ref t5, .int (nI nd), .int (nI bd)])), (t5, .inl (cJ, 256, .inr (.inl wy)))])) (va_A [(t0, .inr (7, [.ref t1, .ref t2, .ref t3, .ref t4, .ref t5, .int (nI nd), .int (nI bd)])), (t5, .inl (cJ, 256, .inr (.inl wy)))] sz)) 0 0 (va_A [(t0, .inr (7, [.ref t1, .ref t2, .ref t3, .ref t4, .ref t5, .int (nI nd), .int (nI bd)])), (t5, .inl (cJ, 256, .inr (.inl wy)))] sz) := by
  refine gx_met RX3 rfl (by decide) rfl (Nat.le_of_ble_eq_true rfl) ?_
  intro X hl hDx hAx C hQ hXP hsz hin
  subst hl; subst hDx
  rw [← hAx] at hQ
  refine g_lv [0, 1] (lv' := [(0, .ref t0), (1, .int (nI a))]) rfl ?_
  refine g_iconst (v := nI 0) C dX3_treeOf_0 1 rfl (by decide) ?_
  refine g_istore_n C dX3_treeOf_1 2 rfl (by decide) [1, 2, 0] (lv' := [(0, .ref t0), (1, .int (nI a)), (2, .int (nI 0))]) rfl ?_
  refine g_iconst (v := nI 0) C dX3_treeOf_2 3 rfl (by decide) ?_
  refine g_istore_n C dX3_treeOf_3 4 rfl (by decide) [1, 2, 3, 0] (lv' := [(0, .ref t0), (1, .int (nI a)), (2, .int (nI 0)), (3, .int (nI 0))]) rfl ?_
  have hloop : ∀ (fuel i : Nat), i ≤ nd → nd + 1 ≤ i + fuel → gx X 0 0 [(t0, .inr (7, [.ref t1, .ref t2, .ref t3, .ref t4, .ref t5, .int (nI nd), .int (nI bd)])), (t5, .inl (cJ, 256, .inr (.inl wy)))] 4 [(0, .ref t0), (1, .int (nI a)), (2, .int (tb wy a i)), (3, .int (nI i))] [] := by
    intro fuel
    induction fuel with
    | zero => intro i h1 h2; exact absurd h2 (by omega)
    | succ fuel hloop_ih =>
      intro i hle hfu
      refine g_iload_n C dX3_treeOf_4 5 rfl rfl ?_
      refine g_aload_n C dX3_treeOf_5 6 rfl rfl ?_
      refine g_get C iw_X3_treeOf_X3 0 rfl rfl 5 (by decide) (by decide +kernel) rfl rfl dX3_treeOf_6 9 rfl ?_
      refine g_icmp_ge_n C dX3_treeOf_9 37 12 (by decide) rfl (by omega) (by omega) (fun c9 => ?_) (fun c9 => ?_)
      · have e_i : nd = i := by omega
        subst e_i
        refine g_iload_n C dX3_treeOf_37 38 rfl rfl ?_
        exact g_iret C hQ (Nat.le_of_ble_eq_true rfl) (Nat.le_of_ble_eq_true rfl) dX3_treeOf_38 () rfl rfl
      · refine g_aload_n C dX3_treeOf_12 13 rfl rfl ?_
        refine g_iload_n C dX3_treeOf_13 14 rfl rfl ?_
        refine g_iload_n C dX3_treeOf_14 15 rfl rfl ?_
        refine g_callVl (ci := 7) (q0 := 0) (As := [.int (nI a), .int (nI i)]) (rest := []) (wr := []) (ws' := fun (_ : Unit) => [(t0, .inr (7, [.ref t1, .ref t2, .ref t3, .ref t4, .ref t5, .int (nI nd), .int (nI bd)])), (t5, .inl (cJ, 256, .inr (.inl wy)))]) C (fun sz => c_X3_wayBetween _ _ cI cJ cB cZ sz t0 t1 t2 t3 t4 t5 nd bd wy a i (by omega) (by omega)) gx_XP0 2 gX3_treeOf_X3_wayBetween rfl rfl rfl (by decide +kernel) ⟨Nat.le_of_ble_eq_true rfl, Nat.le_of_ble_eq_true rfl⟩ rfl rfl [0, 1] [] [0, 1] rfl (by decide) rfl (by decide) (by decide) (fun _ => rfl) (by decide) rfl rfl (Nat.le_of_ble_eq_true rfl) dX3_treeOf_15 ⟨Nat.le_of_ble_eq_true rfl, Nat.le_of_ble_eq_true rfl⟩ 18 rfl (eqk ?_)
        refine g_ldc2 C (-1) (by decide +kernel) dX3_treeOf_18 21 rfl ?_
        refine g_lc_eq C dX3_treeOf_21 22 rfl dX3_treeOf_22 31 25 (by decide) rfl (fun c21 => ?_) (fun c21 => ?_)
        · refine g_iinc (v := nI (i + 1)) C dX3_treeOf_31 34 rfl rfl (nI_add i 1) (by decide) [1, 2, 3, 0] (lv' := [(0, .ref t0), (1, .int (nI a)), (2, .int (tb wy a i)), (3, .int (nI (i + 1)))]) rfl ?_
          refine g_goto C dX3_treeOf_34 4 (by decide) ?_
          rw [show tb wy a i = tb wy a (i + 1) from by simp only [tb, if_pos c21]]
          exact hloop_ih (i + 1) (by omega) (by omega)
        · refine g_iload_n C dX3_treeOf_25 26 rfl rfl ?_
          refine g_iconst (v := nI 1) C dX3_treeOf_26 27 rfl (by decide) ?_
          refine g_iload_n C dX3_treeOf_27 28 rfl rfl ?_
          refine g_ishl C dX3_treeOf_28 29 rfl ?_
          refine g_ior C dX3_treeOf_29 30 rfl ?_
          refine g_istore_n C dX3_treeOf_30 31 rfl (by decide) [1, 2, 0, 3] (lv' := [(0, .ref t0), (1, .int (nI a)), (2, .int ((tb wy a i) ||| ((nI 1) <<< (nI i &&& 31)))), (3, .int (nI i))]) rfl ?_
          refine g_iinc (v := nI (i + 1)) C dX3_treeOf_31 34 rfl rfl (nI_add i 1) (by decide) [1, 2, 3, 0] (lv' := [(0, .ref t0), (1, .int (nI a)), (2, .int ((tb wy a i) ||| ((nI 1) <<< (nI i &&& 31)))), (3, .int (nI (i + 1)))]) rfl ?_
          refine g_goto C dX3_treeOf_34 4 (by decide) ?_
          rw [show (tb wy a i) ||| ((nI 1) <<< (nI i &&& 31)) = tb wy a (i + 1) from by simp only [tb, if_neg c21]]
          exact hloop_ih (i + 1) (by omega) (by omega)
  exact hloop (nd + 1) 0 (by omega) (by omega)
