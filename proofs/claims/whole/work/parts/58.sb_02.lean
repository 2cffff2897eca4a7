set_option maxHeartbeats 4000000 in
set_option maxRecDepth 100000 in
theorem c_J6_stringSize_0f7a4 (l : Launch) (D : va_G) (cI cJ cB cZ : ClassId) (sz : Nat) (v : Nat) (hv : v < 1000000) : Met l yJ6_stringSize_0f7a4 wsJ6_stringSize_0f7a4 ({ frames := 0, cells := 0, slots := 0, locals := 0 }) (va_Pc [.int (nI v)] (pW D (TY cI cJ cB cZ) [] (fun _ => True) sz)) (va_Qi (fun (rv : Int32) (_ : Unit) => rv = nI ((dgl v).length)) (qW D (TY cI cJ cB cZ) (va_A [] sz) (fun _ => [])) (va_A [] sz)) 0 0 (va_A [] sz) := by
  refine gx_met RJ6 rfl (by decide) rfl (Nat.le_of_ble_eq_true rfl) ?_
  intro X hl hDx hAx C hQ hXP hsz hin
  subst hl; subst hDx
  rw [← hAx] at hQ
  refine g_lv [0] (lv' := [(0, .int (nI v))]) rfl ?_
  refine g_iconst (v := nI 1) C dJ6_stringSize_0f7a4_0 1 rfl (by decide) ?_
  refine g_istore_n C dJ6_stringSize_0f7a4_1 2 rfl (by decide) [1, 0] (lv' := [(0, .int (nI v)), (1, .int (nI 1))]) rfl ?_
  refine g_iload_n C dJ6_stringSize_0f7a4_2 3 rfl rfl ?_
  refine g_if_lt_n C dJ6_stringSize_0f7a4_3 11 6 (by decide) rfl (by omega) ?_
  refine g_iconst (v := nI 0) C dJ6_stringSize_0f7a4_6 7 rfl (by decide) ?_
  refine g_istore_n C dJ6_stringSize_0f7a4_7 8 rfl (by decide) [1, 0] (lv' := [(0, .int (nI v)), (1, .int (nI 0))]) rfl ?_
  refine g_iload_n C dJ6_stringSize_0f7a4_8 9 rfl rfl ?_
  refine g_ineg C dJ6_stringSize_0f7a4_9 10 rfl ?_
  refine g_istore_n C dJ6_stringSize_0f7a4_10 11 rfl (by decide) [0, 1] (lv' := [(0, .int (-(nI v))), (1, .int (nI 0))]) rfl ?_
  refine g_bipush (v := (-10)) C dJ6_stringSize_0f7a4_11 13 rfl (by decide) ?_
  refine g_topi (-nI (10 ^ 1)) (by decide) ?_
  refine g_istore_n C dJ6_stringSize_0f7a4_13 14 rfl (by decide) [1, 2, 0] (lv' := [(0, .int (-(nI v))), (1, .int (nI 0)), (2, .int (-nI (10 ^ 1)))]) rfl ?_
  refine g_iconst (v := nI 1) C dJ6_stringSize_0f7a4_14 15 rfl (by decide) ?_
  refine g_istore_n C dJ6_stringSize_0f7a4_15 16 rfl (by decide) [1, 2, 3, 0] (lv' := [(0, .int (-(nI v))), (1, .int (nI 0)), (2, .int (-nI (10 ^ 1))), (3, .int (nI 1))]) rfl ?_
  have hloop : ∀ (fuel i : Nat), i ≤ 7 → 7 + 1 ≤ i + fuel → (i = 1 ∨ 10 ^ (i - 1) ≤ v) → (1 ≤ i) → gx X 0 0 [] 16 [(0, .int (-(nI v))), (1, .int (nI 0)), (2, .int (-nI (10 ^ i))), (3, .int (nI i))] [] := by
    intro fuel
    induction fuel with
    | zero => intro i h1 h2; exact absurd h2 (by omega)
    | succ fuel hloop_ih =>
      intro i hle hfu h10 hi1
      refine g_iload_n C dJ6_stringSize_0f7a4_16 17 rfl rfl ?_
      refine g_bipush (v := nI 10) C dJ6_stringSize_0f7a4_17 19 rfl (by decide) ?_
      refine g_icmp_ge_n C dJ6_stringSize_0f7a4_19 42 22 (by decide) rfl (by omega) (by omega) (fun c19 => ?_) (fun c19 => ?_)
      · exact absurd c19 (by omega)
      · have hp9 : 10 ^ i < 2147483648 := Nat.lt_of_le_of_lt (Nat.pow_le_pow_right (by omega) (show i ≤ 7 by omega)) (by decide)
        refine g_iload_n C dJ6_stringSize_0f7a4_22 23 rfl rfl ?_
        refine g_iload_n C dJ6_stringSize_0f7a4_23 24 rfl rfl ?_
        refine g_icmp_le C dJ6_stringSize_0f7a4_24 31 27 (by decide) rfl (fun c24 => ?_) (fun c24 => ?_)
        · refine g_bipush (v := nI 10) C dJ6_stringSize_0f7a4_31 33 rfl (by decide) ?_
          refine g_iload_n C dJ6_stringSize_0f7a4_33 34 rfl rfl ?_
          refine g_imul C dJ6_stringSize_0f7a4_34 35 rfl ?_
          refine g_istore_n C dJ6_stringSize_0f7a4_35 36 rfl (by decide) [1, 2, 0, 3] (lv' := [(0, .int (-(nI v))), (1, .int (nI 0)), (2, .int ((nI 10) * (-nI (10 ^ i)))), (3, .int (nI i))]) rfl ?_
          refine g_iinc (v := nI (i + 1)) C dJ6_stringSize_0f7a4_36 39 rfl rfl (nI_add i 1) (by decide) [1, 2, 3, 0] (lv' := [(0, .int (-(nI v))), (1, .int (nI 0)), (2, .int ((nI 10) * (-nI (10 ^ i)))), (3, .int (nI (i + 1)))]) rfl ?_
          refine g_goto C dJ6_stringSize_0f7a4_39 16 (by decide) ?_
          have hge : 10 ^ i ≤ v := (neg_nI_le (by omega) (by omega)).mp c24
          have hi6 : i < 6 := by rcases Nat.lt_or_ge i 6 with q | q; exact q; exact absurd (Nat.le_trans (Nat.pow_le_pow_right (by omega) q) hge) (by omega)
          rw [neg_ten, show 10 * 10 ^ i = 10 ^ (i + 1) by rw [Nat.pow_succ, Nat.mul_comm]]
          exact hloop_ih (i + 1) (by omega) (by omega) (Or.inr (by rw [Nat.add_sub_cancel]; exact hge)) (by omega)
        · refine g_iload_n C dJ6_stringSize_0f7a4_27 28 rfl rfl ?_
          refine g_iload_n C dJ6_stringSize_0f7a4_28 29 rfl rfl ?_
          refine g_iaddn C dJ6_stringSize_0f7a4_29 30 rfl ?_
          exact g_iret C hQ (Nat.le_of_ble_eq_true rfl) (Nat.le_of_ble_eq_true rfl) dJ6_stringSize_0f7a4_30 () (by rw [Nat.add_zero, dgl_len (i - 1) v (by rw [show i - 1 + 1 = i by omega]; exact Nat.lt_of_not_le (fun q => c24 ((neg_nI_le (by omega) (by omega)).mpr q))) (by rcases h10 with q | q; exact Or.inl (by omega); exact Or.inr q), show i - 1 + 1 = i by omega]) rfl
  exact hloop (7 + 1) 1 (by omega) (by omega) (Or.inl rfl) (Nat.le_refl 1)

set_option maxHeartbeats 4000000 in
set_option maxRecDepth 100000 in
theorem c_J6_getChars_ba4f3 (l : Launch) (D : va_G) (cI cJ cB cZ : ClassId) (sz : Nat) (b1 : Nat) (v : Nat) (p : Nat) (f : Nat → Int32) (hv : v < 1000000) (hp : (dgl v).length ≤ p) (hp16 : p ≤ 16) : Met l yJ6_getChars_ba4f3 wsJ6_getChars_ba4f3 ({ frames := 0, cells := 0, slots := 0, locals := 0 }) (va_Pc [.int (nI v), .int (nI p), .ref b1] (pW D (TY cI cJ cB cZ) [(b1, .inl (cB, 16, .inl f))] (pS [(b1, .inl (cB, 16, .inl f))] sz) sz)) (va_Qi (fun (rv : Int32) (_ : Unit) => rv = nI (p - (dgl v).length)) (qW D (TY cI cJ cB cZ) (va_A [(b1, .inl (cB, 16, .inl f))] sz) (fun _ => [(b1, .inl (cB, 16, .inl (wrt f (p - (dgl v).length) (dgl v))))])) (va_A [(b1, .inl (cB, 16, .inl f))] sz)) 0 0 (va_A [(b1, .inl (cB, 16, .inl f))] sz) := by
  refine gx_met RJ6 rfl (by decide) rfl (Nat.le_of_ble_eq_true rfl) ?_
  intro X hl hDx hAx C hQ hXP hsz hin
  subst hl; subst hDx
  unfold pS at hXP
  rw [← hAx] at hQ hXP
  have hX0 : stt (gx_A X) (gx_s X) (gx_s X).heap := hXP
  obtain ⟨hCS, hSF, ⟨tO, hO, hOt⟩, ⟨tT, hTn, hTt⟩⟩ := hX0
  have hX0 : stt (gx_A X) (gx_s X) (gx_s X).heap := hXP
  refine g_lv [0, 1, 2] (lv' := [(0, .int (nI v)), (1, .int (nI p)), (2, .ref b1)]) rfl ?_
  refine g_iload_n C dJ6_getChars_ba4f3_0 1 rfl rfl ?_
  refine g_istore C dJ6_getChars_ba4f3_1 3 rfl (by decide) [1, 2, 3, 0] (lv' := [(0, .int (nI v)), (1, .int (nI p)), (2, .ref b1), (5, .int (nI p))]) rfl ?_
  refine g_iload_n C dJ6_getChars_ba4f3_3 4 rfl rfl ?_
  refine g_if_ge_n C dJ6_getChars_ba4f3_4 11 7 (by decide) rfl (by omega) ?_
  refine g_iconst (v := nI 0) C dJ6_getChars_ba4f3_11 12 rfl (by decide) ?_
  refine g_istore C dJ6_getChars_ba4f3_12 14 rfl (by decide) [1, 2, 3, 4, 0] (lv' := [(0, .int (nI v)), (1, .int (nI p)), (2, .ref b1), (5, .int (nI p)), (6, .int (nI 0))]) rfl ?_
  refine g_iload C dJ6_getChars_ba4f3_14 16 rfl rfl ?_
  refine g_if_ne_n C dJ6_getChars_ba4f3_16 22 19 (by decide) rfl (by omega) (fun c16 => ?_) (fun c16 => ?_)
  · exact absurd c16 (by omega)
  · refine g_iload_n C dJ6_getChars_ba4f3_19 20 rfl rfl ?_
    refine g_ineg C dJ6_getChars_ba4f3_20 21 rfl ?_
    refine g_istore_n C dJ6_getChars_ba4f3_21 22 rfl (by decide) [0, 1, 2, 3, 4] (lv' := [(0, .int (-(nI v))), (1, .int (nI p)), (2, .ref b1), (5, .int (nI p)), (6, .int (nI 0))]) rfl ?_
    have hl : ∀ (fuel w q : Nat) (f1 : Nat → Int32), w < fuel → w < 1000000 → (dgl w).length ≤ q → q ≤ 16 → q - (dgl w).length = p - (dgl v).length → wrt f1 (q - (dgl w).length) (dgl w) = wrt f (p - (dgl v).length) (dgl v) → gx X 0 0 [(b1, .inl (cB, 16, .inl f1))] 22 [(0, .int (-nI w)), (1, .int (nI p)), (2, .ref b1), (5, .int (nI q)), (6, .int (nI 0))] [] := by
      intro fuel
      induction fuel with
      | zero => intro w q f1 h1; exact absurd h1 (by omega)
      | succ fuel hl_ih =>
        intro w q f1 hfu hw6 hlq hq16 hqp hin9
        refine g_iload_n C dJ6_getChars_ba4f3_22 23 rfl rfl ?_
        refine g_bipush (v := (-100)) C dJ6_getChars_ba4f3_23 25 rfl (by decide) ?_
        refine g_topi (-nI 100) (by decide) ?_
        refine g_icmp_gt C dJ6_getChars_ba4f3_25 72 28 (by decide) rfl (fun c25 => ?_) (fun c25 => ?_)
        · have hw1 : w < 100 := (sb_nlt (by decide) (by omega)).mp c25
          have hd2 := dgl_pos w
          refine g_aload_n C dJ6_getChars_ba4f3_72 73 rfl rfl ?_
          refine g_iinc (v := nI (q - 1)) C dJ6_getChars_ba4f3_73 76 rfl rfl (nI_dec q (by omega)) (by decide) [1, 2, 3, 0, 4] (lv' := [(0, .int (-nI w)), (1, .int (nI p)), (2, .ref b1), (5, .int (nI (q - 1))), (6, .int (nI 0))]) rfl ?_
          refine g_iload C dJ6_getChars_ba4f3_76 78 rfl rfl ?_
          refine g_gets C hO (by decide +kernel) dJ6_getChars_ba4f3_78 81 rfl ?_
          refine g_iload_n C dJ6_getChars_ba4f3_81 82 rfl rfl ?_
          refine g_ineg C dJ6_getChars_ba4f3_82 83 rfl ?_
          refine g_topi (nI w) Int32.neg_neg ?_
          refine g_tb C hOt w rfl (by omega) (by decide) rfl dJ6_getChars_ba4f3_83 84 rfl ?_
          refine g_bast C 0 2 rfl rfl (q - 1) rfl (by omega) (by decide) dJ6_getChars_ba4f3_84 85 rfl (ws' := [(b1, .inl (cB, 16, .inl (upd f1 (q - 1) (nI (48 + w % 10)))))]) (by rw [show vp_nar .byte (nI (48 + w % 10)) = nI (48 + w % 10) from nar_b (by omega)]; rfl) ?_
          refine g_iload_n C dJ6_getChars_ba4f3_85 86 rfl rfl ?_
          refine g_bipush (v := (-9)) C dJ6_getChars_ba4f3_86 88 rfl (by decide) ?_
          refine g_topi (-nI 9) (by decide) ?_
          refine g_icmp_ge C dJ6_getChars_ba4f3_88 104 91 (by decide) rfl (fun c88 => ?_) (fun c88 => ?_)
          · have hw2 : w < 10 := Nat.lt_of_le_of_lt ((sb_nle (by decide) (by omega)).mp c88) (by decide)
            have hd3 := dgl_l1 hw2
            refine g_iload C dJ6_getChars_ba4f3_104 106 rfl rfl ?_
            refine g_if_eq_n C dJ6_getChars_ba4f3_106 118 109 (by decide) rfl (by omega) (fun c106 => ?_) (fun c106 => ?_)
            · refine g_iload C dJ6_getChars_ba4f3_118 120 rfl rfl ?_
              exact g_iret C hQ (Nat.le_of_ble_eq_true rfl) (Nat.le_of_ble_eq_true rfl) dJ6_getChars_ba4f3_120 () (by rw [← hqp, hd3]) (by rw [← hin9, getc_end1 hw2])
            · exact absurd c106 (by omega)
          · have hw2 : 10 ≤ w := Nat.lt_of_not_le (fun q9 => c88 ((sb_nle (by decide) (by omega)).mpr q9))
            have hd3 := dgl_l2 hw2 hw1
            refine g_aload_n C dJ6_getChars_ba4f3_91 92 rfl rfl ?_
            refine g_iinc (v := nI ((q - 1) - 1)) C dJ6_getChars_ba4f3_92 95 rfl rfl (nI_dec (q - 1) (by omega)) (by decide) [1, 2, 3, 0, 4] (lv' := [(0, .int (-nI w)), (1, .int (nI p)), (2, .ref b1), (5, .int (nI ((q - 1) - 1))), (6, .int (nI 0))]) rfl ?_
            refine g_iload C dJ6_getChars_ba4f3_95 97 rfl rfl ?_
            refine g_gets C hTn (by decide +kernel) dJ6_getChars_ba4f3_97 100 rfl ?_
            refine g_iload_n C dJ6_getChars_ba4f3_100 101 rfl rfl ?_
            refine g_ineg C dJ6_getChars_ba4f3_101 102 rfl ?_
            refine g_topi (nI w) Int32.neg_neg ?_
            refine g_tb C hTt w rfl (by omega) (by decide) rfl dJ6_getChars_ba4f3_102 103 rfl ?_
            refine g_bast C 0 2 rfl rfl ((q - 1) - 1) rfl (by omega) (by decide) dJ6_getChars_ba4f3_103 104 rfl (ws' := [(b1, .inl (cB, 16, .inl (upd (upd f1 (q - 1) (nI (48 + w % 10))) ((q - 1) - 1) (nI (48 + w / 10)))))]) (by rw [show vp_nar .byte (nI (48 + w / 10)) = nI (48 + w / 10) from nar_b (by omega)]; rfl) ?_
            refine g_iload C dJ6_getChars_ba4f3_104 106 rfl rfl ?_
            refine g_if_eq_n C dJ6_getChars_ba4f3_106 118 109 (by decide) rfl (by omega) (fun c106 => ?_) (fun c106 => ?_)
            · refine g_iload C dJ6_getChars_ba4f3_118 120 rfl rfl ?_
              exact g_iret C hQ (Nat.le_of_ble_eq_true rfl) (Nat.le_of_ble_eq_true rfl) dJ6_getChars_ba4f3_120 () (by rw [← hqp, hd3]; rfl) (by rw [← hin9, getc_end2 hw2 hw1 (by omega)])
            · exact absurd c106 (by omega)
        · have hw1 : 100 ≤ w := Nat.le_of_not_lt (fun q9 => c25 ((sb_nlt (by decide) (by omega)).mpr q9))
          have hd1 := dgl_len100 hw1
          have hd2 := dgl_pos (w / 100)
          refine g_iload_n C dJ6_getChars_ba4f3_28 29 rfl rfl ?_
          refine g_bipush (v := nI 100) C dJ6_getChars_ba4f3_29 31 rfl (by decide) ?_
          refine g_idiv C dJ6_getChars_ba4f3_31 32 rfl (by decide) ?_
          refine g_topi (-nI (w / 100)) (sb_ndiv (by omega)) ?_
          refine g_istore_n C dJ6_getChars_ba4f3_32 33 rfl (by decide) [1, 2, 3, 0, 4, 5] (lv' := [(0, .int (-nI w)), (1, .int (nI p)), (2, .ref b1), (3, .int (-nI (w / 100))), (5, .int (nI q)), (6, .int (nI 0))]) rfl ?_
          refine g_iload_n C dJ6_getChars_ba4f3_33 34 rfl rfl ?_
          refine g_bipush (v := nI 100) C dJ6_getChars_ba4f3_34 36 rfl (by decide) ?_
          refine g_imul C dJ6_getChars_ba4f3_36 37 rfl ?_
          refine g_iload_n C dJ6_getChars_ba4f3_37 38 rfl rfl ?_
          refine g_isub C dJ6_getChars_ba4f3_38 39 rfl ?_
          refine g_topi (nI (w % 100)) (sb_nrem (by omega)) ?_
          refine g_istore C dJ6_getChars_ba4f3_39 41 rfl (by decide) [1, 2, 3, 4, 0, 5, 6] (lv' := [(0, .int (-nI w)), (1, .int (nI p)), (2, .ref b1), (3, .int (-nI (w / 100))), (4, .int (nI (w % 100))), (5, .int (nI q)), (6, .int (nI 0))]) rfl ?_
          refine g_iload_n C dJ6_getChars_ba4f3_41 42 rfl rfl ?_
          refine g_istore_n C dJ6_getChars_ba4f3_42 43 rfl (by decide) [0, 1, 2, 3, 4, 5, 6] (lv' := [(0, .int (-nI (w / 100))), (1, .int (nI p)), (2, .ref b1), (3, .int (-nI (w / 100))), (4, .int (nI (w % 100))), (5, .int (nI q)), (6, .int (nI 0))]) rfl ?_
          refine g_aload_n C dJ6_getChars_ba4f3_43 44 rfl rfl ?_
          refine g_iinc (v := nI (q - 1)) C dJ6_getChars_ba4f3_44 47 rfl rfl (nI_dec q (by omega)) (by decide) [1, 2, 3, 4, 5, 0, 6] (lv' := [(0, .int (-nI (w / 100))), (1, .int (nI p)), (2, .ref b1), (3, .int (-nI (w / 100))), (4, .int (nI (w % 100))), (5, .int (nI (q - 1))), (6, .int (nI 0))]) rfl ?_
          refine g_iload C dJ6_getChars_ba4f3_47 49 rfl rfl ?_
          refine g_gets C hO (by decide +kernel) dJ6_getChars_ba4f3_49 52 rfl ?_
          refine g_iload C dJ6_getChars_ba4f3_52 54 rfl rfl ?_
          refine g_tb C hOt (w % 100) rfl (by omega) (by decide) rfl dJ6_getChars_ba4f3_54 55 rfl ?_
          refine g_bast C 0 2 rfl rfl (q - 1) rfl (by omega) (by decide) dJ6_getChars_ba4f3_55 56 rfl (ws' := [(b1, .inl (cB, 16, .inl (upd f1 (q - 1) (nI (48 + (w % 100) % 10)))))]) (by rw [show vp_nar .byte (nI (48 + (w % 100) % 10)) = nI (48 + (w % 100) % 10) from nar_b (by omega)]; rfl) ?_
          refine g_aload_n C dJ6_getChars_ba4f3_56 57 rfl rfl ?_
          refine g_iinc (v := nI ((q - 1) - 1)) C dJ6_getChars_ba4f3_57 60 rfl rfl (nI_dec (q - 1) (by omega)) (by decide) [1, 2, 3, 4, 5, 0, 6] (lv' := [(0, .int (-nI (w / 100))), (1, .int (nI p)), (2, .ref b1), (3, .int (-nI (w / 100))), (4, .int (nI (w % 100))), (5, .int (nI ((q - 1) - 1))), (6, .int (nI 0))]) rfl ?_
          refine g_iload C dJ6_getChars_ba4f3_60 62 rfl rfl ?_
          refine g_gets C hTn (by decide +kernel) dJ6_getChars_ba4f3_62 65 rfl ?_
          refine g_iload C dJ6_getChars_ba4f3_65 67 rfl rfl ?_
          refine g_tb C hTt (w % 100) rfl (by omega) (by decide) rfl dJ6_getChars_ba4f3_67 68 rfl ?_
          refine g_bast C 0 2 rfl rfl ((q - 1) - 1) rfl (by omega) (by decide) dJ6_getChars_ba4f3_68 69 rfl (ws' := [(b1, .inl (cB, 16, .inl (upd (upd f1 (q - 1) (nI (48 + (w % 100) % 10))) ((q - 1) - 1) (nI (48 + (w % 100) / 10)))))]) (by rw [show vp_nar .byte (nI (48 + (w % 100) / 10)) = nI (48 + (w % 100) / 10) from nar_b (by omega)]; rfl) ?_
          refine g_goto C dJ6_getChars_ba4f3_69 22 (by decide) ?_
          refine g_lv [0, 1, 2, 5, 6] (lv' := [(0, .int (-nI (w / 100))), (1, .int (nI p)), (2, .ref b1), (5, .int (nI ((q - 1) - 1))), (6, .int (nI 0))]) rfl ?_
          exact hl_ih (w / 100) (q - 1 - 1) _ (by omega) (by omega) (by omega) (by omega) (by omega) ((getc_step (by omega) (by omega)).trans hin9)
    exact hl (v + 1) v p f (by omega) hv hp hp16 rfl rfl
