theorem iw_X3_joinTrees_X3 : ∀ w ∈ wsX30, w ∈ wsX3_joinTrees := by decide +kernel
set_option maxHeartbeats 4000000 in
set_option maxRecDepth 100000 in
theorem c_X3_joinTrees (l : Launch) (D : va_G) (cI cJ cB cZ : ClassId) (sz : Nat) (t0 : Nat) (t1 : Nat) (t2 : Nat) (t3 : Nat) (t4 : Nat) (t5 : Nat) (nd : Nat) (bd : Nat) (wy : Nat → Int64) (a : Nat) (b : Nat) (w : Int64) (ha : a < 16) (hb : b < 16) (hd : nd ≤ 16) : Met l yX3_joinTrees wsX3_joinTrees ({ frames := 2, cells := 0, slots := 0, locals := 45 }) (va_Pc [.ref t0, .int (nI a), .int (nI b), .long w] (pW D (TY cI cJ cB cZ) [(t0, .inr (7, [.ref t1, .ref t2, .ref t3, .ref t4, .ref t5, .int (nI nd), .int (nI bd)])), (t5, .inl (cJ, 256, .inr (.inl wy)))] (nst [(RX3, 52, yX6_hasBit, "HarnessRows")]) sz)) (va_Qv (fun (_ : Unit) => True) (qW D (TY cI cJ cB cZ) (va_A [(t0, .inr (7, [.ref t1, .ref t2, .ref t3, .ref t4, .ref t5, .int (nI nd), .int (nI bd)])), (t5, .inl (cJ, 256, .inr (.inl wy)))] sz) (fun _ => [(t0, .inr (7, [.ref t1, .ref t2, .ref t3, .ref t4, .ref t5, .int (nI nd), .int (nI bd)])), (t5, .inl (cJ, 256, .inr (.inl (jall (tb wy a nd) (tb wy b nd) a b w nd wy nd))))])) (va_A [(t0, .inr (7, [.ref t1, .ref t2, .ref t3, .ref t4, .ref t5, .int (nI nd), .int (nI bd)])), (t5, .inl (cJ, 256, .inr (.inl wy)))] sz)) 0 0 (va_A [(t0, .inr (7, [.ref t1, .ref t2, .ref t3, .ref t4, .ref t5, .int (nI nd), .int (nI bd)])), (t5, .inl (cJ, 256, .inr (.inl wy)))] sz) := by
  refine gx_met RX3 rfl (by decide) rfl (Nat.le_of_ble_eq_true rfl) ?_
  intro X hl hDx hAx C hQ hXP hsz hin
  subst hl; subst hDx
  rw [← hAx] at hQ
  refine g_lv [0, 1, 2, 3] (lv' := [(0, .ref t0), (1, .int (nI a)), (2, .int (nI b)), (3, .long w)]) rfl ?_
  refine g_aload_n C dX3_joinTrees_0 1 rfl rfl ?_
  refine g_iload_n C dX3_joinTrees_1 2 rfl rfl ?_
  refine g_callVi (ci := 7) (q0 := 0) (As := [.int (nI a)]) (rest := []) (wr := []) (ws' := fun (_ : Unit) => [(t0, .inr (7, [.ref t1, .ref t2, .ref t3, .ref t4, .ref t5, .int (nI nd), .int (nI bd)])), (t5, .inl (cJ, 256, .inr (.inl wy)))]) C (fun sz => c_X3_treeOf _ _ cI cJ cB cZ sz t0 t1 t2 t3 t4 t5 nd bd wy a (by omega) (by omega)) gx_XP0 1 gX3_joinTrees_X3_treeOf rfl rfl rfl (by decide +kernel) ⟨Nat.le_of_ble_eq_true rfl, Nat.le_of_ble_eq_true rfl⟩ rfl rfl [0, 1] [] [0, 1] rfl (by decide) rfl (by decide) (by decide) (fun _ => rfl) (by decide) rfl rfl (Nat.le_of_ble_eq_true rfl) dX3_joinTrees_2 ⟨Nat.le_of_ble_eq_true rfl, Nat.le_of_ble_eq_true rfl⟩ 5 rfl (eqk ?_)
  refine g_istore C dX3_joinTrees_5 7 rfl (by decide) [1, 2, 3, 4, 0] (lv' := [(0, .ref t0), (1, .int (nI a)), (2, .int (nI b)), (3, .long w), (5, .int (tb wy a nd))]) rfl ?_
  refine g_aload_n C dX3_joinTrees_7 8 rfl rfl ?_
  refine g_iload_n C dX3_joinTrees_8 9 rfl rfl ?_
  refine g_callVi (ci := 7) (q0 := 0) (As := [.int (nI b)]) (rest := []) (wr := []) (ws' := fun (_ : Unit) => [(t0, .inr (7, [.ref t1, .ref t2, .ref t3, .ref t4, .ref t5, .int (nI nd), .int (nI bd)])), (t5, .inl (cJ, 256, .inr (.inl wy)))]) C (fun sz => c_X3_treeOf _ _ cI cJ cB cZ sz t0 t1 t2 t3 t4 t5 nd bd wy b (by omega) (by omega)) gx_XP0 1 gX3_joinTrees_X3_treeOf rfl rfl rfl (by decide +kernel) ⟨Nat.le_of_ble_eq_true rfl, Nat.le_of_ble_eq_true rfl⟩ rfl rfl [0, 1] [] [0, 1] rfl (by decide) rfl (by decide) (by decide) (fun _ => rfl) (by decide) rfl rfl (Nat.le_of_ble_eq_true rfl) dX3_joinTrees_9 ⟨Nat.le_of_ble_eq_true rfl, Nat.le_of_ble_eq_true rfl⟩ 12 rfl (eqk ?_)
  refine g_istore C dX3_joinTrees_12 14 rfl (by decide) [1, 2, 3, 4, 5, 0] (lv' := [(0, .ref t0), (1, .int (nI a)), (2, .int (nI b)), (3, .long w), (5, .int (tb wy a nd)), (6, .int (tb wy b nd))]) rfl ?_
  refine g_iconst (v := nI 0) C dX3_joinTrees_14 15 rfl (by decide) ?_
  refine g_istore C dX3_joinTrees_15 17 rfl (by decide) [1, 2, 3, 4, 5, 6, 0] (lv' := [(0, .ref t0), (1, .int (nI a)), (2, .int (nI b)), (3, .long w), (5, .int (tb wy a nd)), (6, .int (tb wy b nd)), (7, .int (nI 0))]) rfl ?_
  have hout : ∀ (fuel i : Nat), i ≤ nd → nd + 1 ≤ i + fuel → gx X 0 0 [(t0, .inr (7, [.ref t1, .ref t2, .ref t3, .ref t4, .ref t5, .int (nI nd), .int (nI bd)])), (t5, .inl (cJ, 256, .inr (.inl (jall (tb wy a nd) (tb wy b nd) a b w nd wy i))))] 17 [(0, .ref t0), (1, .int (nI a)), (2, .int (nI b)), (3, .long w), (5, .int (tb wy a nd)), (6, .int (tb wy b nd)), (7, .int (nI i))] [] := by
    intro fuel
    induction fuel with
    | zero => intro i h1 h2; exact absurd h2 (by omega)
    | succ fuel hout_ih =>
      intro i hle hfu
      refine g_iload C dX3_joinTrees_17 19 rfl rfl ?_
      refine g_aload_n C dX3_joinTrees_19 20 rfl rfl ?_
      refine g_get C iw_X3_joinTrees_X3 0 rfl rfl 5 (by decide) (by decide +kernel) rfl rfl dX3_joinTrees_20 23 rfl ?_
      refine g_icmp_ge_n C dX3_joinTrees_23 95 26 (by decide) rfl (by omega) (by omega) (fun c23 => ?_) (fun c23 => ?_)
      · have e_i : nd = i := by omega
        subst e_i
        exact g_vret C hQ (Nat.le_of_ble_eq_true rfl) (Nat.le_of_ble_eq_true rfl) dX3_joinTrees_95 () trivial rfl
      · refine g_iconst (v := nI 0) C dX3_joinTrees_26 27 rfl (by decide) ?_
        refine g_istore C dX3_joinTrees_27 29 rfl (by decide) [1, 2, 3, 4, 5, 6, 7, 0] (lv' := [(0, .ref t0), (1, .int (nI a)), (2, .int (nI b)), (3, .long w), (5, .int (tb wy a nd)), (6, .int (tb wy b nd)), (7, .int (nI i)), (8, .int (nI 0))]) rfl ?_
        have hin2 : ∀ (fuel j : Nat), j ≤ nd → nd + 1 ≤ j + fuel → gx X 0 0 [(t0, .inr (7, [.ref t1, .ref t2, .ref t3, .ref t4, .ref t5, .int (nI nd), .int (nI bd)])), (t5, .inl (cJ, 256, .inr (.inl (jrow (tb wy a nd) (tb wy b nd) a b w i (jall (tb wy a nd) (tb wy b nd) a b w nd wy i) j))))] 29 [(0, .ref t0), (1, .int (nI a)), (2, .int (nI b)), (3, .long w), (5, .int (tb wy a nd)), (6, .int (tb wy b nd)), (7, .int (nI i)), (8, .int (nI j))] [] := by
          intro fuel
          induction fuel with
          | zero => intro j h1 h2; exact absurd h2 (by omega)
          | succ fuel hin2_ih =>
            intro j hle hfu
            refine g_iload C dX3_joinTrees_29 31 rfl rfl ?_
            refine g_aload_n C dX3_joinTrees_31 32 rfl rfl ?_
            refine g_get C iw_X3_joinTrees_X3 0 rfl rfl 5 (by decide) (by decide +kernel) rfl rfl dX3_joinTrees_32 35 rfl ?_
            refine g_icmp_ge_n C dX3_joinTrees_35 89 38 (by decide) rfl (by omega) (by omega) (fun c35 => ?_) (fun c35 => ?_)
            · have e_j : nd = j := by omega
              subst e_j
              refine g_iinc (v := nI (i + 1)) C dX3_joinTrees_89 92 rfl rfl (nI_add i 1) (by decide) [1, 2, 3, 4, 5, 6, 0, 7] (lv' := [(0, .ref t0), (1, .int (nI a)), (2, .int (nI b)), (3, .long w), (5, .int (tb wy a nd)), (6, .int (tb wy b nd)), (7, .int (nI (i + 1))), (8, .int (nI nd))]) rfl ?_
              refine g_goto C dX3_joinTrees_92 17 (by decide) ?_
              refine g_lv [0, 1, 2, 3, 4, 5, 6] (lv' := [(0, .ref t0), (1, .int (nI a)), (2, .int (nI b)), (3, .long w), (5, .int (tb wy a nd)), (6, .int (tb wy b nd)), (7, .int (nI (i + 1)))]) rfl ?_
              rw [show jrow (tb wy a nd) (tb wy b nd) a b w i (jall (tb wy a nd) (tb wy b nd) a b w nd wy i) nd = jall (tb wy a nd) (tb wy b nd) a b w nd wy (i + 1) from rfl]
              exact hout_ih (i + 1) (by omega) (by omega)
            · refine g_iload C dX3_joinTrees_38 40 rfl rfl ?_
              refine g_iload C dX3_joinTrees_40 42 rfl rfl ?_
              refine g_callSNi (As := [.int (tb wy a nd), .int (nI i)]) (rest := []) (wr := [(t0, .inr (7, [.ref t1, .ref t2, .ref t3, .ref t4, .ref t5, .int (nI nd), .int (nI bd)])), (t5, .inl (cJ, 256, .inr (.inl (jrow (tb wy a nd) (tb wy b nd) a b w i (jall (tb wy a nd) (tb wy b nd) a b w nd wy i) j))))]) (ws' := fun (_ : Unit) => [(t0, .inr (7, [.ref t1, .ref t2, .ref t3, .ref t4, .ref t5, .int (nI nd), .int (nI bd)])), (t5, .inl (cJ, 256, .inr (.inl (jrow (tb wy a nd) (tb wy b nd) a b w i (jall (tb wy a nd) (tb wy b nd) a b w nd wy i) j))))]) C (fun sz => c_X6_hasBit _ _ cI cJ cB cZ sz (tb wy a nd) i (by omega)) gx_XP0 2 ggX3_joinTrees_X6_hasBit (hXP (RX3, 52, yX6_hasBit, "HarnessRows") (List.mem_of_getElem? (i := 0) rfl)) (by decide +kernel) (by decide +kernel) rfl rfl rfl (by decide +kernel) ⟨Nat.le_of_ble_eq_true rfl, Nat.le_of_ble_eq_true rfl⟩ [] [0, 1] [0, 1] rfl (by decide) rfl (by decide) (by decide) (fun _ => rfl) (by decide) rfl rfl (Nat.le_of_ble_eq_true rfl) dX3_joinTrees_42 ⟨Nat.le_of_ble_eq_true rfl, Nat.le_of_ble_eq_true rfl⟩ 45 rfl (eqk ?_)
              refine g_if_eq_b C dX3_joinTrees_45 83 48 (by decide) rfl (fun c45 => ?_) (fun c45 => ?_)
              · refine g_iinc (v := nI (j + 1)) C dX3_joinTrees_83 86 rfl rfl (nI_add j 1) (by decide) [1, 2, 3, 4, 5, 6, 7, 0] (lv' := [(0, .ref t0), (1, .int (nI a)), (2, .int (nI b)), (3, .long w), (5, .int (tb wy a nd)), (6, .int (tb wy b nd)), (7, .int (nI i)), (8, .int (nI (j + 1)))]) rfl ?_
                refine g_goto C dX3_joinTrees_86 29 (by decide) ?_
                rw [show jrow (tb wy a nd) (tb wy b nd) a b w i (jall (tb wy a nd) (tb wy b nd) a b w nd wy i) j = jrow (tb wy a nd) (tb wy b nd) a b w i (jall (tb wy a nd) (tb wy b nd) a b w nd wy i) (j + 1) from by simp only [jrow]; rw [if_neg (fun q => by rw [q.1] at c45; cases c45)]]
                exact hin2_ih (j + 1) (by omega) (by omega)
              · refine g_iload C dX3_joinTrees_48 50 rfl rfl ?_
                refine g_iload C dX3_joinTrees_50 52 rfl rfl ?_
                refine g_callSNi (As := [.int (tb wy b nd), .int (nI j)]) (rest := []) (wr := [(t0, .inr (7, [.ref t1, .ref t2, .ref t3, .ref t4, .ref t5, .int (nI nd), .int (nI bd)])), (t5, .inl (cJ, 256, .inr (.inl (jrow (tb wy a nd) (tb wy b nd) a b w i (jall (tb wy a nd) (tb wy b nd) a b w nd wy i) j))))]) (ws' := fun (_ : Unit) => [(t0, .inr (7, [.ref t1, .ref t2, .ref t3, .ref t4, .ref t5, .int (nI nd), .int (nI bd)])), (t5, .inl (cJ, 256, .inr (.inl (jrow (tb wy a nd) (tb wy b nd) a b w i (jall (tb wy a nd) (tb wy b nd) a b w nd wy i) j))))]) C (fun sz => c_X6_hasBit _ _ cI cJ cB cZ sz (tb wy b nd) j (by omega)) gx_XP0 2 ggX3_joinTrees_X6_hasBit (hXP (RX3, 52, yX6_hasBit, "HarnessRows") (List.mem_of_getElem? (i := 0) rfl)) (by decide +kernel) (by decide +kernel) rfl rfl rfl (by decide +kernel) ⟨Nat.le_of_ble_eq_true rfl, Nat.le_of_ble_eq_true rfl⟩ [] [0, 1] [0, 1] rfl (by decide) rfl (by decide) (by decide) (fun _ => rfl) (by decide) rfl rfl (Nat.le_of_ble_eq_true rfl) dX3_joinTrees_52 ⟨Nat.le_of_ble_eq_true rfl, Nat.le_of_ble_eq_true rfl⟩ 55 rfl (eqk ?_)
                refine g_if_eq_b C dX3_joinTrees_55 83 58 (by decide) rfl (fun c55 => ?_) (fun c55 => ?_)
                · refine g_iinc (v := nI (j + 1)) C dX3_joinTrees_83 86 rfl rfl (nI_add j 1) (by decide) [1, 2, 3, 4, 5, 6, 7, 0] (lv' := [(0, .ref t0), (1, .int (nI a)), (2, .int (nI b)), (3, .long w), (5, .int (tb wy a nd)), (6, .int (tb wy b nd)), (7, .int (nI i)), (8, .int (nI (j + 1)))]) rfl ?_
                  refine g_goto C dX3_joinTrees_86 29 (by decide) ?_
                  rw [show jrow (tb wy a nd) (tb wy b nd) a b w i (jall (tb wy a nd) (tb wy b nd) a b w nd wy i) j = jrow (tb wy a nd) (tb wy b nd) a b w i (jall (tb wy a nd) (tb wy b nd) a b w nd wy i) (j + 1) from by simp only [jrow]; rw [if_neg (fun q => by rw [q.2] at c55; cases c55)]]
                  exact hin2_ih (j + 1) (by omega) (by omega)
                · refine g_aload_n C dX3_joinTrees_58 59 rfl rfl ?_
                  refine g_iload C dX3_joinTrees_59 61 rfl rfl ?_
                  refine g_iload C dX3_joinTrees_61 63 rfl rfl ?_
                  refine g_aload_n C dX3_joinTrees_63 64 rfl rfl ?_
                  refine g_iload C dX3_joinTrees_64 66 rfl rfl ?_
                  refine g_iload_n C dX3_joinTrees_66 67 rfl rfl ?_
                  refine g_callVl (ci := 7) (q0 := 0) (As := [.int (nI i), .int (nI a)]) (rest := [.int (nI j), .int (nI i), .ref t0]) (wr := []) (ws' := fun (_ : Unit) => [(t0, .inr (7, [.ref t1, .ref t2, .ref t3, .ref t4, .ref t5, .int (nI nd), .int (nI bd)])), (t5, .inl (cJ, 256, .inr (.inl (jrow (tb wy a nd) (tb wy b nd) a b w i (jall (tb wy a nd) (tb wy b nd) a b w nd wy i) j))))]) C (fun sz => c_X3_wayBetween _ _ cI cJ cB cZ sz t0 t1 t2 t3 t4 t5 nd bd (jrow (tb wy a nd) (tb wy b nd) a b w i (jall (tb wy a nd) (tb wy b nd) a b w nd wy i) j) i a (by omega) (by omega)) gx_XP0 2 gX3_joinTrees_X3_wayBetween rfl rfl rfl (by decide +kernel) ⟨Nat.le_of_ble_eq_true rfl, Nat.le_of_ble_eq_true rfl⟩ rfl rfl [0, 1] [] [0, 1] rfl (by decide) rfl (by decide) (by decide) (fun _ => rfl) (by decide) rfl rfl (Nat.le_of_ble_eq_true rfl) dX3_joinTrees_67 ⟨Nat.le_of_ble_eq_true rfl, Nat.le_of_ble_eq_true rfl⟩ 70 rfl (eqk ?_)
                  refine g_lload_n C dX3_joinTrees_70 71 rfl rfl ?_
                  refine g_ladd C dX3_joinTrees_71 72 rfl ?_
                  refine g_aload_n C dX3_joinTrees_72 73 rfl rfl ?_
                  refine g_iload_n C dX3_joinTrees_73 74 rfl rfl ?_
                  refine g_iload C dX3_joinTrees_74 76 rfl rfl ?_
                  refine g_callVl (ci := 7) (q0 := 0) (As := [.int (nI b), .int (nI j)]) (rest := [.long (((jrow (tb wy a nd) (tb wy b nd) a b w i (jall (tb wy a nd) (tb wy b nd) a b w nd wy i) j) (i * 16 + a)) + w), .int (nI j), .int (nI i), .ref t0]) (wr := []) (ws' := fun (_ : Unit) => [(t0, .inr (7, [.ref t1, .ref t2, .ref t3, .ref t4, .ref t5, .int (nI nd), .int (nI bd)])), (t5, .inl (cJ, 256, .inr (.inl (jrow (tb wy a nd) (tb wy b nd) a b w i (jall (tb wy a nd) (tb wy b nd) a b w nd wy i) j))))]) C (fun sz => c_X3_wayBetween _ _ cI cJ cB cZ sz t0 t1 t2 t3 t4 t5 nd bd (jrow (tb wy a nd) (tb wy b nd) a b w i (jall (tb wy a nd) (tb wy b nd) a b w nd wy i) j) b j (by omega) (by omega)) gx_XP0 2 gX3_joinTrees_X3_wayBetween rfl rfl rfl (by decide +kernel) ⟨Nat.le_of_ble_eq_true rfl, Nat.le_of_ble_eq_true rfl⟩ rfl rfl [0, 1] [] [0, 1] rfl (by decide) rfl (by decide) (by decide) (fun _ => rfl) (by decide) rfl rfl (Nat.le_of_ble_eq_true rfl) dX3_joinTrees_76 ⟨Nat.le_of_ble_eq_true rfl, Nat.le_of_ble_eq_true rfl⟩ 79 rfl (eqk ?_)
                  refine g_ladd C dX3_joinTrees_79 80 rfl ?_
                  refine g_callVv (ci := 7) (q0 := 0) (As := [.int (nI i), .int (nI j), .long ((((jrow (tb wy a nd) (tb wy b nd) a b w i (jall (tb wy a nd) (tb wy b nd) a b w nd wy i) j) (i * 16 + a)) + w) + ((jrow (tb wy a nd) (tb wy b nd) a b w i (jall (tb wy a nd) (tb wy b nd) a b w nd wy i) j) (b * 16 + j)))]) (rest := []) (wr := []) (ws' := fun (_ : Unit) => [(t0, .inr (7, [.ref t1, .ref t2, .ref t3, .ref t4, .ref t5, .int (nI nd), .int (nI bd)])), (t5, .inl (cJ, 256, .inr (.inl (sw (jrow (tb wy a nd) (tb wy b nd) a b w i (jall (tb wy a nd) (tb wy b nd) a b w nd wy i) j) i j ((((jrow (tb wy a nd) (tb wy b nd) a b w i (jall (tb wy a nd) (tb wy b nd) a b w nd wy i) j) (i * 16 + a)) + w) + ((jrow (tb wy a nd) (tb wy b nd) a b w i (jall (tb wy a nd) (tb wy b nd) a b w nd wy i) j) (b * 16 + j)))))))]) C (fun sz => c_X3_setWay _ _ cI cJ cB cZ sz t0 t1 t2 t3 t4 t5 nd bd (jrow (tb wy a nd) (tb wy b nd) a b w i (jall (tb wy a nd) (tb wy b nd) a b w nd wy i) j) i j ((((jrow (tb wy a nd) (tb wy b nd) a b w i (jall (tb wy a nd) (tb wy b nd) a b w nd wy i) j) (i * 16 + a)) + w) + ((jrow (tb wy a nd) (tb wy b nd) a b w i (jall (tb wy a nd) (tb wy b nd) a b w nd wy i) j) (b * 16 + j))) (by omega) (by omega)) gx_XP0 3 gX3_joinTrees_X3_setWay rfl rfl rfl (by decide +kernel) ⟨Nat.le_of_ble_eq_true rfl, Nat.le_of_ble_eq_true rfl⟩ rfl rfl [0, 1] [] [0, 1] rfl (by decide) rfl (by decide) (by decide) (fun _ => rfl) (by decide) rfl rfl (Nat.le_of_ble_eq_true rfl) dX3_joinTrees_80 ⟨Nat.le_of_ble_eq_true rfl, Nat.le_of_ble_eq_true rfl⟩ 83 rfl (fun _ _ => ?_)
                  refine g_iinc (v := nI (j + 1)) C dX3_joinTrees_83 86 rfl rfl (nI_add j 1) (by decide) [1, 2, 3, 4, 5, 6, 7, 0] (lv' := [(0, .ref t0), (1, .int (nI a)), (2, .int (nI b)), (3, .long w), (5, .int (tb wy a nd)), (6, .int (tb wy b nd)), (7, .int (nI i)), (8, .int (nI (j + 1)))]) rfl ?_
                  refine g_goto C dX3_joinTrees_86 29 (by decide) ?_
                  rw [show sw (jrow (tb wy a nd) (tb wy b nd) a b w i (jall (tb wy a nd) (tb wy b nd) a b w nd wy i) j) i j ((((jrow (tb wy a nd) (tb wy b nd) a b w i (jall (tb wy a nd) (tb wy b nd) a b w nd wy i) j) (i * 16 + a)) + w) + ((jrow (tb wy a nd) (tb wy b nd) a b w i (jall (tb wy a nd) (tb wy b nd) a b w nd wy i) j) (b * 16 + j))) = jrow (tb wy a nd) (tb wy b nd) a b w i (jall (tb wy a nd) (tb wy b nd) a b w nd wy i) (j + 1) from by simp only [jrow, if_pos (And.intro c45 c55)]]
                  exact hin2_ih (j + 1) (by omega) (by omega)
        rw [show jall (tb wy a nd) (tb wy b nd) a b w nd wy i = jrow (tb wy a nd) (tb wy b nd) a b w i (jall (tb wy a nd) (tb wy b nd) a b w nd wy i) 0 from rfl]
        exact hin2 (nd + 1) 0 (by omega) (by omega)
  exact hout (nd + 1) 0 (by omega) (by omega)
