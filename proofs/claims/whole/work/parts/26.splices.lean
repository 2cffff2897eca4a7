theorem iw_X1_inOneGroup_X1 : ∀ w ∈ wsX10, w ∈ wsX1_inOneGroup := by decide +kernel
set_option maxHeartbeats 4000000 in
set_option maxRecDepth 100000 in
theorem c_X1_inOneGroup (l : Launch) (D : va_G) (cI cJ cB cZ : ClassId) (sz : Nat) (s0 : Nat) (s1 : Nat) (s2 : Nat) (sc : Nat) (gr : Nat → Nat) (x : Nat) (y : Nat) (hg : ∀ k, k < 24 → gr k < 24) (hx : x < 24) (hy : y < 24) : Met l yX1_inOneGroup wsX1_inOneGroup ({ frames := 0, cells := 0, slots := 0, locals := 0 }) (va_Pc [.ref s0, .int (nI x), .int (nI y)] (pW D (TY cI cJ cB cZ) [(s0, .inr (5, [.ref s1, .ref s2, .int (nI sc)])), (s2, .inl (cI, 24, .inl (fun jj => nI (gr jj))))] (fun _ => True) sz)) (va_Qi (fun (rv : Int32) (_ : Unit) => rv = bI (decide (gr x = gr y))) (qW D (TY cI cJ cB cZ) (va_A [(s0, .inr (5, [.ref s1, .ref s2, .int (nI sc)])), (s2, .inl (cI, 24, .inl (fun jj => nI (gr jj))))] sz) (fun _ => [(s0, .inr (5, [.ref s1, .ref s2, .int (nI sc)])), (s2, .inl (cI, 24, .inl (fun jj => nI (gr jj))))])) (va_A [(s0, .inr (5, [.ref s1, .ref s2, .int (nI sc)])), (s2, .inl (cI, 24, .inl (fun jj => nI (gr jj))))] sz)) 0 0 (va_A [(s0, .inr (5, [.ref s1, .ref s2, .int (nI sc)])), (s2, .inl (cI, 24, .inl (fun jj => nI (gr jj))))] sz) := by
  refine gx_met RX1 rfl (by decide) rfl (Nat.le_of_ble_eq_true rfl) ?_
  intro X hl hDx hAx C hQ hXP hsz hin
  subst hl; subst hDx
  rw [← hAx] at hQ
  refine g_lv [0, 1, 2] (lv' := [(0, .ref s0), (1, .int (nI x)), (2, .int (nI y))]) rfl ?_
  have h1 := hg x hx
  have h2 := hg y hy
  refine g_aload_n C dX1_inOneGroup_0 1 rfl rfl ?_
  refine g_get C iw_X1_inOneGroup_X1 0 rfl rfl 1 (by decide) (by decide +kernel) rfl rfl dX1_inOneGroup_1 4 rfl ?_
  refine g_iload_n C dX1_inOneGroup_4 5 rfl rfl ?_
  refine g_iald C 1 0 rfl rfl x rfl (by omega) (by decide) dX1_inOneGroup_5 6 rfl ?_
  refine g_aload_n C dX1_inOneGroup_6 7 rfl rfl ?_
  refine g_get C iw_X1_inOneGroup_X1 0 rfl rfl 1 (by decide) (by decide +kernel) rfl rfl dX1_inOneGroup_7 10 rfl ?_
  refine g_iload_n C dX1_inOneGroup_10 11 rfl rfl ?_
  refine g_iald C 1 0 rfl rfl y rfl (by omega) (by decide) dX1_inOneGroup_11 12 rfl ?_
  refine g_icmp_ne_n C dX1_inOneGroup_12 19 15 (by decide) rfl (by omega) (by omega) (fun c12 => ?_) (fun c12 => ?_)
  · refine g_iconst (v := nI 0) C dX1_inOneGroup_19 20 rfl (by decide) ?_
    exact g_zret C hQ (Nat.le_of_ble_eq_true rfl) (Nat.le_of_ble_eq_true rfl) dX1_inOneGroup_20 rfl () (by simp [bI, nI_one, nI_0, c12]) rfl
  · refine g_iconst (v := nI 1) C dX1_inOneGroup_15 16 rfl (by decide) ?_
    refine g_goto C dX1_inOneGroup_16 20 (by decide) ?_
    exact g_zret C hQ (Nat.le_of_ble_eq_true rfl) (Nat.le_of_ble_eq_true rfl) dX1_inOneGroup_20 rfl () (by simp [bI, nI_one, nI_0, c12]) rfl

theorem iw_X1_mergeGroups_X1 : ∀ w ∈ wsX10, w ∈ wsX1_mergeGroups := by decide +kernel
set_option maxHeartbeats 4000000 in
set_option maxRecDepth 100000 in
theorem c_X1_mergeGroups (l : Launch) (D : va_G) (cI cJ cB cZ : ClassId) (sz : Nat) (s0 : Nat) (s1 : Nat) (s2 : Nat) (sc : Nat) (gr : Nat → Nat) (kept : Nat) (gone : Nat) (hg : ∀ k, k < 24 → gr k < 24) (hk : kept < 24) (ho : gone < 24) : Met l yX1_mergeGroups wsX1_mergeGroups ({ frames := 0, cells := 0, slots := 0, locals := 0 }) (va_Pc [.ref s0, .int (nI kept), .int (nI gone)] (pW D (TY cI cJ cB cZ) [(s0, .inr (5, [.ref s1, .ref s2, .int (nI sc)])), (s2, .inl (cI, 24, .inl (fun jj => nI (gr jj))))] (fun _ => True) sz)) (va_Qv (fun (_ : Unit) => True) (qW D (TY cI cJ cB cZ) (va_A [(s0, .inr (5, [.ref s1, .ref s2, .int (nI sc)])), (s2, .inl (cI, 24, .inl (fun jj => nI (gr jj))))] sz) (fun _ => [(s0, .inr (5, [.ref s1, .ref s2, .int (nI sc)])), (s2, .inl (cI, 24, .inl (fun jj => nI ((mg gr kept gone 24) jj))))])) (va_A [(s0, .inr (5, [.ref s1, .ref s2, .int (nI sc)])), (s2, .inl (cI, 24, .inl (fun jj => nI (gr jj))))] sz)) 0 0 (va_A [(s0, .inr (5, [.ref s1, .ref s2, .int (nI sc)])), (s2, .inl (cI, 24, .inl (fun jj => nI (gr jj))))] sz) := by
  refine gx_met RX1 rfl (by decide) rfl (Nat.le_of_ble_eq_true rfl) ?_
  intro X hl hDx hAx C hQ hXP hsz hin
  subst hl; subst hDx
  rw [← hAx] at hQ
  refine g_lv [0, 1, 2] (lv' := [(0, .ref s0), (1, .int (nI kept)), (2, .int (nI gone))]) rfl ?_
  refine g_iconst (v := nI 0) C dX1_mergeGroups_0 1 rfl (by decide) ?_
  refine g_istore_n C dX1_mergeGroups_1 2 rfl (by decide) [1, 2, 3, 0] (lv' := [(0, .ref s0), (1, .int (nI kept)), (2, .int (nI gone)), (3, .int (nI 0))]) rfl ?_
  have hloop : ∀ (fuel i : Nat), i ≤ 24 → 24 + 1 ≤ i + fuel → gx X 0 0 [(s0, .inr (5, [.ref s1, .ref s2, .int (nI sc)])), (s2, .inl (cI, 24, .inl (fun jj => nI ((mg gr kept gone i) jj))))] 2 [(0, .ref s0), (1, .int (nI kept)), (2, .int (nI gone)), (3, .int (nI i))] [] := by
    intro fuel
    induction fuel with
    | zero => intro i h1 h2; exact absurd h2 (by omega)
    | succ fuel hloop_ih =>
      intro i hle hfu
      refine g_iload_n C dX1_mergeGroups_2 3 rfl rfl ?_
      refine g_bipush (v := nI 24) C dX1_mergeGroups_3 5 rfl (by decide) ?_
      refine g_icmp_ge_n C dX1_mergeGroups_5 31 8 (by decide) rfl (by omega) (by omega) (fun c5 => ?_) (fun c5 => ?_)
      · have e_i : 24 = i := by omega
        subst e_i
        exact g_vret C hQ (Nat.le_of_ble_eq_true rfl) (Nat.le_of_ble_eq_true rfl) dX1_mergeGroups_31 () trivial rfl
      · refine g_aload_n C dX1_mergeGroups_8 9 rfl rfl ?_
        refine g_get C iw_X1_mergeGroups_X1 0 rfl rfl 1 (by decide) (by decide +kernel) rfl rfl dX1_mergeGroups_9 12 rfl ?_
        refine g_iload_n C dX1_mergeGroups_12 13 rfl rfl ?_
        refine g_iald C 1 0 rfl rfl i rfl (by omega) (by decide) dX1_mergeGroups_13 14 rfl ?_
        have hb1 : mg gr kept gone i i = gr i := mg_ge _ _ _ (Nat.le_refl i)
        have hb2 := hg i (by omega)
        refine g_iload_n C dX1_mergeGroups_14 15 rfl rfl ?_
        refine g_icmp_ne_n C dX1_mergeGroups_15 25 18 (by decide) rfl (by omega) (by omega) (fun c15 => ?_) (fun c15 => ?_)
        · refine g_iinc (v := nI (i + 1)) C dX1_mergeGroups_25 28 rfl rfl (nI_add i 1) (by decide) [1, 2, 3, 0] (lv' := [(0, .ref s0), (1, .int (nI kept)), (2, .int (nI gone)), (3, .int (nI (i + 1)))]) rfl ?_
          refine g_goto C dX1_mergeGroups_28 2 (by decide) ?_
          rw [show mg gr kept gone i = mg gr kept gone (i + 1) from by simp only [mg, if_neg c15]]
          exact hloop_ih (i + 1) (by omega) (by omega)
        · refine g_aload_n C dX1_mergeGroups_18 19 rfl rfl ?_
          refine g_get C iw_X1_mergeGroups_X1 0 rfl rfl 1 (by decide) (by decide +kernel) rfl rfl dX1_mergeGroups_19 22 rfl ?_
          refine g_iload_n C dX1_mergeGroups_22 23 rfl rfl ?_
          refine g_iload_n C dX1_mergeGroups_23 24 rfl rfl ?_
          refine g_iast C 1 0 rfl rfl i rfl (by omega) (by decide) dX1_mergeGroups_24 25 rfl (ws' := [(s0, .inr (5, [.ref s1, .ref s2, .int (nI sc)])), (s2, .inl (cI, 24, .inl (fun jj => nI ((updN (mg gr kept gone i) i kept) jj))))]) (by rw [upd_nI]; rfl) ?_
          refine g_iinc (v := nI (i + 1)) C dX1_mergeGroups_25 28 rfl rfl (nI_add i 1) (by decide) [1, 2, 3, 0] (lv' := [(0, .ref s0), (1, .int (nI kept)), (2, .int (nI gone)), (3, .int (nI (i + 1)))]) rfl ?_
          refine g_goto C dX1_mergeGroups_28 2 (by decide) ?_
          rw [show updN (mg gr kept gone i) i kept = mg gr kept gone (i + 1) from by simp only [mg, if_pos c15]]
          exact hloop_ih (i + 1) (by omega) (by omega)
  exact hloop (24 + 1) 0 (by omega) (by omega)

theorem iw_X1_add_X1 : ∀ w ∈ wsX10, w ∈ wsX1_add := by decide +kernel
set_option maxHeartbeats 4000000 in
set_option maxRecDepth 100000 in
theorem c_X1_add (l : Launch) (D : va_G) (cI cJ cB cZ : ClassId) (sz : Nat) (s0 : Nat) (s1 : Nat) (s2 : Nat) (sc : Nat) (pa : Nat → Int32) (gr : Nat → Nat) (x : Nat) (y : Nat) (hg : ∀ k, k < 24 → gr k < 24) (hx : x < 24) (hy : y < 24) (h1 : x ≠ y) (h2 : sc < 20) (h3 : bt (pa x) y = false) : Met l yX1_add wsX1_add ({ frames := 1, cells := 0, slots := 0, locals := 23 }) (va_Pc [.ref s0, .int (nI x), .int (nI y)] (pW D (TY cI cJ cB cZ) [(s0, .inr (5, [.ref s1, .ref s2, .int (nI sc)])), (s1, .inl (cI, 24, .inl pa)), (s2, .inl (cI, 24, .inl (fun jj => nI (gr jj))))] (nst [(RX1, 22, yX6_hasBit, "HarnessRows")]) sz)) (va_Qi (fun (rv : Int32) (_ : Unit) => rv = nI (sc + 1)) (qW D (TY cI cJ cB cZ) (va_A [(s0, .inr (5, [.ref s1, .ref s2, .int (nI sc)])), (s1, .inl (cI, 24, .inl pa)), (s2, .inl (cI, 24, .inl (fun jj => nI (gr jj))))] sz) (fun _ => [(s0, .inr (5, [.ref s1, .ref s2, .int (nI (sc + 1))])), (s1, .inl (cI, 24, .inl (pput pa x y))), (s2, .inl (cI, 24, .inl (fun jj => nI ((mg gr (gr x) (gr y) 24) jj))))])) (va_A [(s0, .inr (5, [.ref s1, .ref s2, .int (nI sc)])), (s1, .inl (cI, 24, .inl pa)), (s2, .inl (cI, 24, .inl (fun jj => nI (gr jj))))] sz)) 0 0 (va_A [(s0, .inr (5, [.ref s1, .ref s2, .int (nI sc)])), (s1, .inl (cI, 24, .inl pa)), (s2, .inl (cI, 24, .inl (fun jj => nI (gr jj))))] sz) := by
  refine gx_met RX1 rfl (by decide) rfl (Nat.le_of_ble_eq_true rfl) ?_
  intro X hl hDx hAx C hQ hXP hsz hin
  subst hl; subst hDx
  rw [← hAx] at hQ
  refine g_lv [0, 1, 2] (lv' := [(0, .ref s0), (1, .int (nI x)), (2, .int (nI y))]) rfl ?_
  refine g_iload_n C dX1_add_0 1 rfl rfl ?_
  refine g_iload_n C dX1_add_1 2 rfl rfl ?_
  refine g_icmp_eq_n C dX1_add_2 27 5 (by decide) rfl (by omega) (by omega) (fun c2 => ?_) (fun c2 => ?_)
  · exact absurd c2 h1
  · refine g_aload_n C dX1_add_5 6 rfl rfl ?_
    refine g_get C iw_X1_add_X1 0 rfl rfl 2 (by decide) (by decide +kernel) rfl rfl dX1_add_6 9 rfl ?_
    refine g_bipush (v := nI 20) C dX1_add_9 11 rfl (by decide) ?_
    refine g_icmp_ge_n C dX1_add_11 27 14 (by decide) rfl (by omega) (by omega) (fun c11 => ?_) (fun c11 => ?_)
    · exact absurd c11 (by omega)
    · refine g_aload_n C dX1_add_14 15 rfl rfl ?_
      refine g_get C iw_X1_add_X1 0 rfl rfl 0 (by decide) (by decide +kernel) rfl rfl dX1_add_15 18 rfl ?_
      refine g_iload_n C dX1_add_18 19 rfl rfl ?_
      refine g_iald C 1 0 rfl rfl x rfl (by omega) (by decide) dX1_add_19 20 rfl ?_
      refine g_iload_n C dX1_add_20 21 rfl rfl ?_
      refine g_callSNi (As := [.int (pa x), .int (nI y)]) (rest := []) (wr := [(s0, .inr (5, [.ref s1, .ref s2, .int (nI sc)])), (s1, .inl (cI, 24, .inl pa)), (s2, .inl (cI, 24, .inl (fun jj => nI (gr jj))))]) (ws' := fun (_ : Unit) => [(s0, .inr (5, [.ref s1, .ref s2, .int (nI sc)])), (s1, .inl (cI, 24, .inl pa)), (s2, .inl (cI, 24, .inl (fun jj => nI (gr jj))))]) C (fun sz => c_X6_hasBit _ _ cI cJ cB cZ sz (pa x) y (by omega)) gx_XP0 2 ggX1_add_X6_hasBit (hXP (RX1, 22, yX6_hasBit, "HarnessRows") (List.mem_of_getElem? (i := 0) rfl)) (by decide +kernel) (by decide +kernel) rfl rfl rfl (by decide +kernel) ⟨Nat.le_of_ble_eq_true rfl, Nat.le_of_ble_eq_true rfl⟩ [] [0, 1, 2] [0, 1, 2] rfl (by decide) rfl (by decide) (by decide) (fun _ => rfl) (by decide) rfl rfl (Nat.le_of_ble_eq_true rfl) dX1_add_21 ⟨Nat.le_of_ble_eq_true rfl, Nat.le_of_ble_eq_true rfl⟩ 24 rfl (eqk ?_)
      refine g_if_eq_b C dX1_add_24 29 27 (by decide) rfl (fun c24 => ?_) (fun c24 => ?_)
      · refine g_aload_n C dX1_add_29 30 rfl rfl ?_
        refine g_get C iw_X1_add_X1 0 rfl rfl 0 (by decide) (by decide +kernel) rfl rfl dX1_add_30 33 rfl ?_
        refine g_iload_n C dX1_add_33 34 rfl rfl ?_
        refine g_dup2_11 C dX1_add_34 35 rfl rfl rfl ?_
        refine g_iald C 1 0 rfl rfl x rfl (by omega) (by decide) dX1_add_35 36 rfl ?_
        refine g_iconst (v := nI 1) C dX1_add_36 37 rfl (by decide) ?_
        refine g_iload_n C dX1_add_37 38 rfl rfl ?_
        refine g_ishl C dX1_add_38 39 rfl ?_
        refine g_ior C dX1_add_39 40 rfl ?_
        refine g_iast C 1 0 rfl rfl x rfl (by omega) (by decide) dX1_add_40 41 rfl (ws' := [(s0, .inr (5, [.ref s1, .ref s2, .int (nI sc)])), (s1, .inl (cI, 24, .inl (upd pa x ((pa x) ||| ((nI 1) <<< (nI y &&& 31)))))), (s2, .inl (cI, 24, .inl (fun jj => nI (gr jj))))]) rfl ?_
        refine g_aload_n C dX1_add_41 42 rfl rfl ?_
        refine g_get C iw_X1_add_X1 0 rfl rfl 0 (by decide) (by decide +kernel) rfl rfl dX1_add_42 45 rfl ?_
        refine g_iload_n C dX1_add_45 46 rfl rfl ?_
        refine g_dup2_11 C dX1_add_46 47 rfl rfl rfl ?_
        refine g_iald C 1 0 rfl rfl y rfl (by omega) (by decide) dX1_add_47 48 rfl ?_
        refine g_iconst (v := nI 1) C dX1_add_48 49 rfl (by decide) ?_
        refine g_iload_n C dX1_add_49 50 rfl rfl ?_
        refine g_ishl C dX1_add_50 51 rfl ?_
        refine g_ior C dX1_add_51 52 rfl ?_
        refine g_iast C 1 0 rfl rfl y rfl (by omega) (by decide) dX1_add_52 53 rfl (ws' := [(s0, .inr (5, [.ref s1, .ref s2, .int (nI sc)])), (s1, .inl (cI, 24, .inl (upd (upd pa x ((pa x) ||| ((nI 1) <<< (nI y &&& 31)))) y (((upd pa x ((pa x) ||| ((nI 1) <<< (nI y &&& 31)))) y) ||| ((nI 1) <<< (nI x &&& 31)))))), (s2, .inl (cI, 24, .inl (fun jj => nI (gr jj))))]) rfl ?_
        refine g_aload_n C dX1_add_53 54 rfl rfl ?_
        refine g_aload_n C dX1_add_54 55 rfl rfl ?_
        refine g_get C iw_X1_add_X1 0 rfl rfl 1 (by decide) (by decide +kernel) rfl rfl dX1_add_55 58 rfl ?_
        refine g_iload_n C dX1_add_58 59 rfl rfl ?_
        refine g_iald C 2 0 rfl rfl x rfl (by omega) (by decide) dX1_add_59 60 rfl ?_
        refine g_aload_n C dX1_add_60 61 rfl rfl ?_
        refine g_get C iw_X1_add_X1 0 rfl rfl 1 (by decide) (by decide +kernel) rfl rfl dX1_add_61 64 rfl ?_
        refine g_iload_n C dX1_add_64 65 rfl rfl ?_
        refine g_iald C 2 0 rfl rfl y rfl (by omega) (by decide) dX1_add_65 66 rfl ?_
        refine g_callVv (ci := 5) (q0 := 0) (As := [.int (nI (gr x)), .int (nI (gr y))]) (rest := []) (wr := [(s1, .inl (cI, 24, .inl (upd (upd pa x ((pa x) ||| ((nI 1) <<< (nI y &&& 31)))) y (((upd pa x ((pa x) ||| ((nI 1) <<< (nI y &&& 31)))) y) ||| ((nI 1) <<< (nI x &&& 31))))))]) (ws' := fun (_ : Unit) => [(s0, .inr (5, [.ref s1, .ref s2, .int (nI sc)])), (s1, .inl (cI, 24, .inl (upd (upd pa x ((pa x) ||| ((nI 1) <<< (nI y &&& 31)))) y (((upd pa x ((pa x) ||| ((nI 1) <<< (nI y &&& 31)))) y) ||| ((nI 1) <<< (nI x &&& 31)))))), (s2, .inl (cI, 24, .inl (fun jj => nI ((mg gr (gr x) (gr y) 24) jj))))]) C (fun sz => c_X1_mergeGroups _ _ cI cJ cB cZ sz s0 s1 s2 sc gr (gr x) (gr y) hg (hg x hx) (hg y hy)) gx_XP0 2 gX1_add_X1_mergeGroups rfl rfl rfl (by decide +kernel) ⟨Nat.le_of_ble_eq_true rfl, Nat.le_of_ble_eq_true rfl⟩ rfl rfl [0, 2] [1] [1, 0, 2] rfl (by decide) rfl (by decide) (by decide) (fun _ => rfl) (by decide) rfl rfl (Nat.le_of_ble_eq_true rfl) dX1_add_66 ⟨Nat.le_of_ble_eq_true rfl, Nat.le_of_ble_eq_true rfl⟩ 69 rfl (fun _ _ => ?_)
        refine g_aload_n C dX1_add_69 70 rfl rfl ?_
        refine g_dup C dX1_add_70 71 rfl rfl ?_
        refine g_get C iw_X1_add_X1 0 rfl rfl 2 (by decide) (by decide +kernel) rfl rfl dX1_add_71 74 rfl ?_
        refine g_iconst (v := nI 1) C dX1_add_74 75 rfl (by decide) ?_
        refine g_iaddn C dX1_add_75 76 rfl ?_
        refine g_put C (ty := .int) iw_X1_add_X1 tyX1 tyX1_ok nmX1 0 rfl rfl 2 (by decide) (by decide +kernel) rfl rfl (by decide +kernel) rfl rfl (Nat.le_of_ble_eq_true rfl) dX1_add_76 79 rfl (ws' := [(s0, .inr (5, [.ref s1, .ref s2, .int (nI (sc + 1))])), (s1, .inl (cI, 24, .inl (upd (upd pa x ((pa x) ||| ((nI 1) <<< (nI y &&& 31)))) y (((upd pa x ((pa x) ||| ((nI 1) <<< (nI y &&& 31)))) y) ||| ((nI 1) <<< (nI x &&& 31)))))), (s2, .inl (cI, 24, .inl (fun jj => nI ((mg gr (gr x) (gr y) 24) jj))))]) rfl ?_
        refine g_aload_n C dX1_add_79 80 rfl rfl ?_
        refine g_get C iw_X1_add_X1 0 rfl rfl 2 (by decide) (by decide +kernel) rfl rfl dX1_add_80 83 rfl ?_
        exact g_iret C hQ (Nat.le_of_ble_eq_true rfl) (Nat.le_of_ble_eq_true rfl) dX1_add_83 () rfl rfl
      · exact absurd h3 (by rw [c24]; decide)

set_option maxHeartbeats 4000000 in
set_option maxRecDepth 100000 in
theorem c_X1_add_no (l : Launch) (D : va_G) (cI cJ cB cZ : ClassId) (sz : Nat) (s0 : Nat) (s1 : Nat) (s2 : Nat) (sc : Nat) (pa : Nat → Int32) (gr : Nat → Nat) (x : Nat) (y : Nat) (hx : x < 24) (hy : y < 24) (hs : sc ≤ 20) (hno : x = y ∨ 20 ≤ sc ∨ bt (pa x) y = true) : Met l yX1_add wsX1_add ({ frames := 1, cells := 0, slots := 0, locals := 21 }) (va_Pc [.ref s0, .int (nI x), .int (nI y)] (pW D (TY cI cJ cB cZ) [(s0, .inr (5, [.ref s1, .ref s2, .int (nI sc)])), (s1, .inl (cI, 24, .inl pa)), (s2, .inl (cI, 24, .inl (fun jj => nI (gr jj))))] (nst [(RX1, 22, yX6_hasBit, "HarnessRows")]) sz)) (va_Qi (fun (rv : Int32) (_ : Unit) => rv = (-1)) (qW D (TY cI cJ cB cZ) (va_A [(s0, .inr (5, [.ref s1, .ref s2, .int (nI sc)])), (s1, .inl (cI, 24, .inl pa)), (s2, .inl (cI, 24, .inl (fun jj => nI (gr jj))))] sz) (fun _ => [(s0, .inr (5, [.ref s1, .ref s2, .int (nI sc)])), (s1, .inl (cI, 24, .inl pa)), (s2, .inl (cI, 24, .inl (fun jj => nI (gr jj))))])) (va_A [(s0, .inr (5, [.ref s1, .ref s2, .int (nI sc)])), (s1, .inl (cI, 24, .inl pa)), (s2, .inl (cI, 24, .inl (fun jj => nI (gr jj))))] sz)) 0 0 (va_A [(s0, .inr (5, [.ref s1, .ref s2, .int (nI sc)])), (s1, .inl (cI, 24, .inl pa)), (s2, .inl (cI, 24, .inl (fun jj => nI (gr jj))))] sz) := by
  refine gx_met RX1 rfl (by decide) rfl (Nat.le_of_ble_eq_true rfl) ?_
  intro X hl hDx hAx C hQ hXP hsz hin
  subst hl; subst hDx
  rw [← hAx] at hQ
  refine g_lv [0, 1, 2] (lv' := [(0, .ref s0), (1, .int (nI x)), (2, .int (nI y))]) rfl ?_
  refine g_iload_n C dX1_add_0 1 rfl rfl ?_
  refine g_iload_n C dX1_add_1 2 rfl rfl ?_
  refine g_icmp_eq_n C dX1_add_2 27 5 (by decide) rfl (by omega) (by omega) (fun c2 => ?_) (fun c2 => ?_)
  · refine g_iconst (v := -1) C dX1_add_27 28 rfl (by decide) ?_
    exact g_iret C hQ (Nat.le_of_ble_eq_true rfl) (Nat.le_of_ble_eq_true rfl) dX1_add_28 () rfl rfl
  · refine g_aload_n C dX1_add_5 6 rfl rfl ?_
    refine g_get C iw_X1_add_X1 0 rfl rfl 2 (by decide) (by decide +kernel) rfl rfl dX1_add_6 9 rfl ?_
    refine g_bipush (v := nI 20) C dX1_add_9 11 rfl (by decide) ?_
    refine g_icmp_ge_n C dX1_add_11 27 14 (by decide) rfl (by omega) (by omega) (fun c11 => ?_) (fun c11 => ?_)
    · refine g_iconst (v := -1) C dX1_add_27 28 rfl (by decide) ?_
      exact g_iret C hQ (Nat.le_of_ble_eq_true rfl) (Nat.le_of_ble_eq_true rfl) dX1_add_28 () rfl rfl
    · refine g_aload_n C dX1_add_14 15 rfl rfl ?_
      refine g_get C iw_X1_add_X1 0 rfl rfl 0 (by decide) (by decide +kernel) rfl rfl dX1_add_15 18 rfl ?_
      refine g_iload_n C dX1_add_18 19 rfl rfl ?_
      refine g_iald C 1 0 rfl rfl x rfl (by omega) (by decide) dX1_add_19 20 rfl ?_
      refine g_iload_n C dX1_add_20 21 rfl rfl ?_
      refine g_callSNi (As := [.int (pa x), .int (nI y)]) (rest := []) (wr := [(s0, .inr (5, [.ref s1, .ref s2, .int (nI sc)])), (s1, .inl (cI, 24, .inl pa)), (s2, .inl (cI, 24, .inl (fun jj => nI (gr jj))))]) (ws' := fun (_ : Unit) => [(s0, .inr (5, [.ref s1, .ref s2, .int (nI sc)])), (s1, .inl (cI, 24, .inl pa)), (s2, .inl (cI, 24, .inl (fun jj => nI (gr jj))))]) C (fun sz => c_X6_hasBit _ _ cI cJ cB cZ sz (pa x) y (by omega)) gx_XP0 2 ggX1_add_X6_hasBit (hXP (RX1, 22, yX6_hasBit, "HarnessRows") (List.mem_of_getElem? (i := 0) rfl)) (by decide +kernel) (by decide +kernel) rfl rfl rfl (by decide +kernel) ⟨Nat.le_of_ble_eq_true rfl, Nat.le_of_ble_eq_true rfl⟩ [] [0, 1, 2] [0, 1, 2] rfl (by decide) rfl (by decide) (by decide) (fun _ => rfl) (by decide) rfl rfl (Nat.le_of_ble_eq_true rfl) dX1_add_21 ⟨Nat.le_of_ble_eq_true rfl, Nat.le_of_ble_eq_true rfl⟩ 24 rfl (eqk ?_)
      refine g_if_eq_b C dX1_add_24 29 27 (by decide) rfl (fun c24 => ?_) (fun c24 => ?_)
      · exact absurd hno (by rintro (h | h | h); exact c2 h; omega; rw [c24] at h; cases h)
      · refine g_iconst (v := -1) C dX1_add_27 28 rfl (by decide) ?_
        exact g_iret C hQ (Nat.le_of_ble_eq_true rfl) (Nat.le_of_ble_eq_true rfl) dX1_add_28 () rfl rfl

theorem iw_X1_init_X1 : ∀ w ∈ wsX10, w ∈ wsX1_init := by decide +kernel
set_option maxHeartbeats 4000000 in
set_option maxRecDepth 100000 in
theorem c_X1_init (l : Launch) (D : va_G) (cI cJ cB cZ : ClassId) (sz : Nat) (s0 : Nat)  : Met l yX1_init wsX1_init ({ frames := 1, cells := 2, slots := 48, locals := 12 }) (va_Pc [.ref s0] (pW D (TY cI cJ cB cZ) [(s0, .inr (5, [.null, .null, .int 0]))] (fun _ => True) sz)) (va_Qv (fun (u : Nat × Nat) => True) (qW D (TY cI cJ cB cZ) (va_A [(s0, .inr (5, [.null, .null, .int 0]))] sz) (fun u => [(s0, .inr (5, [.ref u.1, .ref u.2, .int (nI 0)])), (u.1, .inl (cI, 24, .inl (fun _ => 0))), (u.2, .inl (cI, 24, .inl (fun jj => nI ((gid 24) jj))))])) (va_A [(s0, .inr (5, [.null, .null, .int 0]))] sz)) 2 48 (va_A [(s0, .inr (5, [.null, .null, .int 0]))] sz) := by
  refine gx_met RX1 rfl (by decide) rfl (Nat.le_of_ble_eq_true rfl) ?_
  intro X hl hDx hAx C hQ hXP hsz hin
  subst hl; subst hDx
  rw [← hAx] at hQ
  refine g_lv [0] (lv' := [(0, .ref s0)]) rfl ?_
  refine g_aload_n C dX1_init_0 1 rfl rfl ?_
  refine g_objInit C (by decide +kernel) (by decide +kernel) (by first | exact List.mem_of_getElem? (i := 3) rfl | exact List.mem_of_getElem? (i := 2) rfl | exact List.mem_of_getElem? (i := 4) rfl | exact List.mem_of_getElem? (i := 5) rfl) dX1_init_1 4 rfl (Nat.le_of_ble_eq_true rfl) (Nat.le_of_ble_eq_true rfl) ?_
  refine g_aload_n C dX1_init_4 5 rfl rfl ?_
  refine g_bipush (v := nI 24) C dX1_init_5 7 rfl (by decide) ?_
  refine g_newa_int C 0 rfl (by decide) (by decide +kernel) dX1_init_7 9 rfl (Nat.le_of_ble_eq_true rfl) (Nat.le_of_ble_eq_true rfl) (fun q7 => ?_)
  refine g_ws (ws' := [(s0, .inr (5, [.null, .null, .int 0])), (q7, .inl (cI, 24, .inl (fun _ => 0)))]) rfl ?_
  refine g_putF C (hI := hin rfl) (ty := .array .int) iw_X1_init_X1 tyX1 tyX1_ok nmX1 0 rfl rfl 0 (by decide) (by decide +kernel) rfl rfl rfl (by decide +kernel) rfl rfl (Nat.le_of_ble_eq_true rfl) dX1_init_9 12 rfl (ws' := [(s0, .inr (5, [.ref q7, .null, .int 0])), (q7, .inl (cI, 24, .inl (fun _ => 0)))]) rfl ?_
  refine g_aload_n C dX1_init_12 13 rfl rfl ?_
  refine g_bipush (v := nI 24) C dX1_init_13 15 rfl (by decide) ?_
  refine g_newa_int C 0 rfl (by decide) (by decide +kernel) dX1_init_15 17 rfl (Nat.le_of_ble_eq_true rfl) (Nat.le_of_ble_eq_true rfl) (fun q15 => ?_)
  refine g_ws (ws' := [(s0, .inr (5, [.ref q7, .null, .int 0])), (q7, .inl (cI, 24, .inl (fun _ => 0))), (q15, .inl (cI, 24, .inl (fun _ => 0)))]) rfl ?_
  refine g_putF C (hI := hin rfl) (ty := .array .int) iw_X1_init_X1 tyX1 tyX1_ok nmX1 0 rfl rfl 1 (by decide) (by decide +kernel) rfl rfl rfl (by decide +kernel) rfl rfl (Nat.le_of_ble_eq_true rfl) dX1_init_17 20 rfl (ws' := [(s0, .inr (5, [.ref q7, .ref q15, .int 0])), (q7, .inl (cI, 24, .inl (fun _ => 0))), (q15, .inl (cI, 24, .inl (fun _ => 0)))]) rfl ?_
  refine g_aload_n C dX1_init_20 21 rfl rfl ?_
  refine g_iconst (v := nI 0) C dX1_init_21 22 rfl (by decide) ?_
  refine g_put C (ty := .int) iw_X1_init_X1 tyX1 tyX1_ok nmX1 0 rfl rfl 2 (by decide) (by decide +kernel) rfl rfl (by decide +kernel) rfl rfl (Nat.le_of_ble_eq_true rfl) dX1_init_22 25 rfl (ws' := [(s0, .inr (5, [.ref q7, .ref q15, .int (nI 0)])), (q7, .inl (cI, 24, .inl (fun _ => 0))), (q15, .inl (cI, 24, .inl (fun _ => 0)))]) rfl ?_
  refine g_iconst (v := nI 0) C dX1_init_25 26 rfl (by decide) ?_
  refine g_istore_n C dX1_init_26 27 rfl (by decide) [1, 0] (lv' := [(0, .ref s0), (1, .int (nI 0))]) rfl ?_
  have hloop : ∀ (fuel i : Nat), i ≤ 24 → 24 + 1 ≤ i + fuel → gx X 2 48 [(s0, .inr (5, [.ref q7, .ref q15, .int (nI 0)])), (q7, .inl (cI, 24, .inl (fun _ => 0))), (q15, .inl (cI, 24, .inl (fun jj => nI ((gid i) jj))))] 27 [(0, .ref s0), (1, .int (nI i))] [] := by
    intro fuel
    induction fuel with
    | zero => intro i h1 h2; exact absurd h2 (by omega)
    | succ fuel hloop_ih =>
      intro i hle hfu
      refine g_iload_n C dX1_init_27 28 rfl rfl ?_
      refine g_bipush (v := nI 24) C dX1_init_28 30 rfl (by decide) ?_
      refine g_icmp_ge_n C dX1_init_30 46 33 (by decide) rfl (by omega) (by omega) (fun c30 => ?_) (fun c30 => ?_)
      · have e_i : 24 = i := by omega
        subst e_i
        exact g_vret C hQ (Nat.le_of_ble_eq_true rfl) (Nat.le_of_ble_eq_true rfl) dX1_init_46 (q7, q15) trivial (by first | (dsimp only; done) | rfl)
      · refine g_aload_n C dX1_init_33 34 rfl rfl ?_
        refine g_get C iw_X1_init_X1 0 rfl rfl 1 (by decide) (by decide +kernel) rfl rfl dX1_init_34 37 rfl ?_
        refine g_iload_n C dX1_init_37 38 rfl rfl ?_
        refine g_iload_n C dX1_init_38 39 rfl rfl ?_
        refine g_iast C 2 0 rfl rfl i rfl (by omega) (by decide) dX1_init_39 40 rfl (ws' := [(s0, .inr (5, [.ref q7, .ref q15, .int (nI 0)])), (q7, .inl (cI, 24, .inl (fun _ => 0))), (q15, .inl (cI, 24, .inl (fun jj => nI ((updN (gid i) i i) jj))))]) (by rw [upd_nI]; rfl) ?_
        refine g_iinc (v := nI (i + 1)) C dX1_init_40 43 rfl rfl (nI_add i 1) (by decide) [1, 0] (lv' := [(0, .ref s0), (1, .int (nI (i + 1)))]) rfl ?_
        refine g_goto C dX1_init_43 27 (by decide) ?_
        rw [show updN (gid i) i i = gid (i + 1) from rfl]
        exact hloop_ih (i + 1) (by omega) (by omega)
  refine g_ws (ws' := [(s0, .inr (5, [.ref q7, .ref q15, .int (nI 0)])), (q7, .inl (cI, 24, .inl (fun _ => 0))), (q15, .inl (cI, 24, .inl (fun jj => nI ((gid 0) jj))))]) rfl ?_
  exact hloop (24 + 1) 0 (by omega) (by omega)
