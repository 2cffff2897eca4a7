theorem iw_X0_keepTrial_X0 : ∀ w ∈ wsX00, w ∈ wsX0_keepTrial := by decide +kernel
set_option maxHeartbeats 4000000 in
set_option maxRecDepth 100000 in
theorem c_X0_keepTrial (l : Launch) (D : va_G) (cI cJ cB cZ : ClassId) (sz : Nat) (m0 : Nat) (m1 : Nat) (m2 : Nat) (m3 : Nat) (m4 : Nat) (m5 : Nat) (np : Nat) (fw : Nat) (rl : Int64) (rq : Nat → Int32) (wp : Nat → Nat) (tr : Nat → Nat) (u : Nat) (hn : np ≤ 24) (hwp : ∀ k, k < np → wp k < 24) : Met l yX0_keepTrial wsX0_keepTrial ({ frames := 0, cells := 0, slots := 0, locals := 0 }) (va_Pc [.ref m0, .int (nI u)] (pW D (TY cI cJ cB cZ) [(m0, .inr (4, [.ref m1, .ref m2, .ref m3, .ref m4, .ref m5, .int (nI np), .int (nI fw), .long rl])), (m1, .inl (cI, 24, .inl rq)), (m2, .inl (cI, 24, .inl (fun jj => nI (wp jj)))), (m5, .inl (cI, 24, .inl (fun jj => nI (tr jj))))] (fun _ => True) sz)) (va_Qv (fun (_ : Unit) => True) (qW D (TY cI cJ cB cZ) (va_A [(m0, .inr (4, [.ref m1, .ref m2, .ref m3, .ref m4, .ref m5, .int (nI np), .int (nI fw), .long rl])), (m1, .inl (cI, 24, .inl rq)), (m2, .inl (cI, 24, .inl (fun jj => nI (wp jj)))), (m5, .inl (cI, 24, .inl (fun jj => nI (tr jj))))] sz) (fun _ => [(m0, .inr (4, [.ref m1, .ref m2, .ref m3, .ref m4, .ref m5, .int (nI np), .int (nI u), .long rl])), (m1, .inl (cI, 24, .inl (kt rq wp tr np))), (m2, .inl (cI, 24, .inl (fun jj => nI (wp jj)))), (m5, .inl (cI, 24, .inl (fun jj => nI (tr jj))))])) (va_A [(m0, .inr (4, [.ref m1, .ref m2, .ref m3, .ref m4, .ref m5, .int (nI np), .int (nI fw), .long rl])), (m1, .inl (cI, 24, .inl rq)), (m2, .inl (cI, 24, .inl (fun jj => nI (wp jj)))), (m5, .inl (cI, 24, .inl (fun jj => nI (tr jj))))] sz)) 0 0 (va_A [(m0, .inr (4, [.ref m1, .ref m2, .ref m3, .ref m4, .ref m5, .int (nI np), .int (nI fw), .long rl])), (m1, .inl (cI, 24, .inl rq)), (m2, .inl (cI, 24, .inl (fun jj => nI (wp jj)))), (m5, .inl (cI, 24, .inl (fun jj => nI (tr jj))))] sz) := by
  refine gx_met RX0 rfl (by decide) rfl (Nat.le_of_ble_eq_true rfl) ?_
  intro X hl hDx hAx C hQ hXP hsz hin
  subst hl; subst hDx
  rw [← hAx] at hQ
  refine g_lv [0, 1] (lv' := [(0, .ref m0), (1, .int (nI u))]) rfl ?_
  refine g_aload_n C dX0_keepTrial_0 1 rfl rfl ?_
  refine g_iload_n C dX0_keepTrial_1 2 rfl rfl ?_
  refine g_put C (ty := .int) iw_X0_keepTrial_X0 tyX0 tyX0_ok nmX0 0 rfl rfl 6 (by decide) (by decide +kernel) rfl rfl (by decide +kernel) rfl rfl (Nat.le_of_ble_eq_true rfl) dX0_keepTrial_2 5 rfl (ws' := [(m0, .inr (4, [.ref m1, .ref m2, .ref m3, .ref m4, .ref m5, .int (nI np), .int (nI u), .long rl])), (m1, .inl (cI, 24, .inl rq)), (m2, .inl (cI, 24, .inl (fun jj => nI (wp jj)))), (m5, .inl (cI, 24, .inl (fun jj => nI (tr jj))))]) rfl ?_
  refine g_iconst (v := nI 0) C dX0_keepTrial_5 6 rfl (by decide) ?_
  refine g_istore_n C dX0_keepTrial_6 7 rfl (by decide) [1, 2, 0] (lv' := [(0, .ref m0), (1, .int (nI u)), (2, .int (nI 0))]) rfl ?_
  have hloop : ∀ (fuel i : Nat), i ≤ np → np + 1 ≤ i + fuel → gx X 0 0 [(m0, .inr (4, [.ref m1, .ref m2, .ref m3, .ref m4, .ref m5, .int (nI np), .int (nI u), .long rl])), (m1, .inl (cI, 24, .inl (kt rq wp tr i))), (m2, .inl (cI, 24, .inl (fun jj => nI (wp jj)))), (m5, .inl (cI, 24, .inl (fun jj => nI (tr jj))))] 7 [(0, .ref m0), (1, .int (nI u)), (2, .int (nI i))] [] := by
    intro fuel
    induction fuel with
    | zero => intro i h1 h2; exact absurd h2 (by omega)
    | succ fuel hloop_ih =>
      intro i hle hfu
      refine g_iload_n C dX0_keepTrial_7 8 rfl rfl ?_
      refine g_aload_n C dX0_keepTrial_8 9 rfl rfl ?_
      refine g_get C iw_X0_keepTrial_X0 0 rfl rfl 5 (by decide) (by decide +kernel) rfl rfl dX0_keepTrial_9 12 rfl ?_
      refine g_icmp_ge_n C dX0_keepTrial_12 38 15 (by decide) rfl (by omega) (by omega) (fun c12 => ?_) (fun c12 => ?_)
      · have e_i : np = i := by omega
        subst e_i
        exact g_vret C hQ (Nat.le_of_ble_eq_true rfl) (Nat.le_of_ble_eq_true rfl) dX0_keepTrial_38 () trivial rfl
      · have hw1 := hwp i (by omega)
        refine g_aload_n C dX0_keepTrial_15 16 rfl rfl ?_
        refine g_get C iw_X0_keepTrial_X0 0 rfl rfl 0 (by decide) (by decide +kernel) rfl rfl dX0_keepTrial_16 19 rfl ?_
        refine g_aload_n C dX0_keepTrial_19 20 rfl rfl ?_
        refine g_get C iw_X0_keepTrial_X0 0 rfl rfl 1 (by decide) (by decide +kernel) rfl rfl dX0_keepTrial_20 23 rfl ?_
        refine g_iload_n C dX0_keepTrial_23 24 rfl rfl ?_
        refine g_iald C 2 0 rfl rfl i rfl (by omega) (by decide) dX0_keepTrial_24 25 rfl ?_
        refine g_aload_n C dX0_keepTrial_25 26 rfl rfl ?_
        refine g_get C iw_X0_keepTrial_X0 0 rfl rfl 4 (by decide) (by decide +kernel) rfl rfl dX0_keepTrial_26 29 rfl ?_
        refine g_iload_n C dX0_keepTrial_29 30 rfl rfl ?_
        refine g_iald C 3 0 rfl rfl i rfl (by omega) (by decide) dX0_keepTrial_30 31 rfl ?_
        refine g_iast C 1 0 rfl rfl (wp i) rfl (by omega) (by decide) dX0_keepTrial_31 32 rfl (ws' := [(m0, .inr (4, [.ref m1, .ref m2, .ref m3, .ref m4, .ref m5, .int (nI np), .int (nI u), .long rl])), (m1, .inl (cI, 24, .inl (upd (kt rq wp tr i) (wp i) (nI (tr i))))), (m2, .inl (cI, 24, .inl (fun jj => nI (wp jj)))), (m5, .inl (cI, 24, .inl (fun jj => nI (tr jj))))]) rfl ?_
        refine g_iinc (v := nI (i + 1)) C dX0_keepTrial_32 35 rfl rfl (nI_add i 1) (by decide) [1, 2, 0] (lv' := [(0, .ref m0), (1, .int (nI u)), (2, .int (nI (i + 1)))]) rfl ?_
        refine g_goto C dX0_keepTrial_35 7 (by decide) ?_
        rw [show upd (kt rq wp tr i) (wp i) (nI (tr i)) = kt rq wp tr (i + 1) from rfl]
        exact hloop_ih (i + 1) (by omega) (by omega)
  exact hloop (np + 1) 0 (by omega) (by omega)

theorem iw_X0_packLongestFirst_X0 : ∀ w ∈ wsX00, w ∈ wsX0_packLongestFirst := by decide +kernel
set_option maxHeartbeats 4000000 in
set_option maxRecDepth 100000 in
theorem c_X0_packLongestFirst (l : Launch) (D : va_G) (cI cJ cB cZ : ClassId) (sz : Nat) (m0 : Nat) (m1 : Nat) (m2 : Nat) (m3 : Nat) (m4 : Nat) (m5 : Nat) (np : Nat) (fw : Nat) (rl : Int64) (rq : Nat → Int32) (wp : Nat → Nat) (cu : Nat → Int64) (fi : Nat → Int64) (hn : np ≤ 24) (hwp : ∀ k, k < np → wp k < 24) : Met l yX0_packLongestFirst wsX0_packLongestFirst ({ frames := 2, cells := 0, slots := 0, locals := 44 }) (va_Pc [.ref m0] (pW D (TY cI cJ cB cZ) [(m0, .inr (4, [.ref m1, .ref m2, .ref m3, .ref m4, .ref m5, .int (nI np), .int (nI fw), .long rl])), (m1, .inl (cI, 24, .inl rq)), (m2, .inl (cI, 24, .inl (fun jj => nI (wp jj)))), (m3, .inl (cJ, 24, .inr (.inl cu))), (m4, .inl (cJ, 24, .inr (.inl fi)))] (fun _ => True) sz)) (va_Qi (fun (rv : Int32) (_ : Unit) => rv = nI ((plf rl wp cu np (0, rq, fi) np).1)) (qW D (TY cI cJ cB cZ) (va_A [(m0, .inr (4, [.ref m1, .ref m2, .ref m3, .ref m4, .ref m5, .int (nI np), .int (nI fw), .long rl])), (m1, .inl (cI, 24, .inl rq)), (m2, .inl (cI, 24, .inl (fun jj => nI (wp jj)))), (m3, .inl (cJ, 24, .inr (.inl cu))), (m4, .inl (cJ, 24, .inr (.inl fi)))] sz) (fun _ => [(m0, .inr (4, [.ref m1, .ref m2, .ref m3, .ref m4, .ref m5, .int (nI np), .int (nI fw), .long rl])), (m1, .inl (cI, 24, .inl ((plf rl wp cu np (0, rq, fi) np).2.1))), (m2, .inl (cI, 24, .inl (fun jj => nI (wp jj)))), (m3, .inl (cJ, 24, .inr (.inl cu))), (m4, .inl (cJ, 24, .inr (.inl ((plf rl wp cu np (0, rq, fi) np).2.2))))])) (va_A [(m0, .inr (4, [.ref m1, .ref m2, .ref m3, .ref m4, .ref m5, .int (nI np), .int (nI fw), .long rl])), (m1, .inl (cI, 24, .inl rq)), (m2, .inl (cI, 24, .inl (fun jj => nI (wp jj)))), (m3, .inl (cJ, 24, .inr (.inl cu))), (m4, .inl (cJ, 24, .inr (.inl fi)))] sz)) 0 0 (va_A [(m0, .inr (4, [.ref m1, .ref m2, .ref m3, .ref m4, .ref m5, .int (nI np), .int (nI fw), .long rl])), (m1, .inl (cI, 24, .inl rq)), (m2, .inl (cI, 24, .inl (fun jj => nI (wp jj)))), (m3, .inl (cJ, 24, .inr (.inl cu))), (m4, .inl (cJ, 24, .inr (.inl fi)))] sz) := by
  refine gx_met RX0 rfl (by decide) rfl (Nat.le_of_ble_eq_true rfl) ?_
  intro X hl hDx hAx C hQ hXP hsz hin
  subst hl; subst hDx
  rw [← hAx] at hQ
  refine g_lv [0] (lv' := [(0, .ref m0)]) rfl ?_
  refine g_iconst (v := nI 0) C dX0_packLongestFirst_0 1 rfl (by decide) ?_
  refine g_istore_n C dX0_packLongestFirst_1 2 rfl (by decide) [1, 0] (lv' := [(0, .ref m0), (1, .int (nI 0))]) rfl ?_
  refine g_iconst (v := nI 0) C dX0_packLongestFirst_2 3 rfl (by decide) ?_
  refine g_istore_n C dX0_packLongestFirst_3 4 rfl (by decide) [1, 2, 0] (lv' := [(0, .ref m0), (1, .int (nI 0)), (2, .int (nI 0))]) rfl ?_
  have hloop : ∀ (fuel t : Nat), t ≤ np → np + 1 ≤ t + fuel → ((plf rl wp cu np (0, rq, fi) t).1 ≤ 24) → gx X 0 0 [(m0, .inr (4, [.ref m1, .ref m2, .ref m3, .ref m4, .ref m5, .int (nI np), .int (nI fw), .long rl])), (m1, .inl (cI, 24, .inl ((plf rl wp cu np (0, rq, fi) t).2.1))), (m2, .inl (cI, 24, .inl (fun jj => nI (wp jj)))), (m3, .inl (cJ, 24, .inr (.inl cu))), (m4, .inl (cJ, 24, .inr (.inl ((plf rl wp cu np (0, rq, fi) t).2.2))))] 4 [(0, .ref m0), (1, .int (nI ((plf rl wp cu np (0, rq, fi) t).1))), (2, .int (nI t))] [] := by
    intro fuel
    induction fuel with
    | zero => intro t h1 h2; exact absurd h2 (by omega)
    | succ fuel hloop_ih =>
      intro t hle hfu hu
      refine g_iload_n C dX0_packLongestFirst_4 5 rfl rfl ?_
      refine g_aload_n C dX0_packLongestFirst_5 6 rfl rfl ?_
      refine g_get C iw_X0_packLongestFirst_X0 0 rfl rfl 5 (by decide) (by decide +kernel) rfl rfl dX0_packLongestFirst_6 9 rfl ?_
      refine g_icmp_ge_n C dX0_packLongestFirst_9 85 12 (by decide) rfl (by omega) (by omega) (fun c9 => ?_) (fun c9 => ?_)
      · have e_t : np = t := by omega
        subst e_t
        refine g_iload_n C dX0_packLongestFirst_85 86 rfl rfl ?_
        exact g_iret C hQ (Nat.le_of_ble_eq_true rfl) (Nat.le_of_ble_eq_true rfl) dX0_packLongestFirst_86 () rfl rfl
      · refine g_aload_n C dX0_packLongestFirst_12 13 rfl rfl ?_
        refine g_callVi (ci := 4) (q0 := 0) (As := []) (rest := []) (wr := [(m4, .inl (cJ, 24, .inr (.inl ((plf rl wp cu np (0, rq, fi) t).2.2))))]) (ws' := fun (_ : Unit) => [(m0, .inr (4, [.ref m1, .ref m2, .ref m3, .ref m4, .ref m5, .int (nI np), .int (nI fw), .long rl])), (m1, .inl (cI, 24, .inl ((plf rl wp cu np (0, rq, fi) t).2.1))), (m2, .inl (cI, 24, .inl (fun jj => nI (wp jj)))), (m3, .inl (cJ, 24, .inr (.inl cu))), (m4, .inl (cJ, 24, .inr (.inl ((plf rl wp cu np (0, rq, fi) t).2.2))))]) C (fun sz => c_X0_longestLeft _ _ cI cJ cB cZ sz m0 m1 m2 m3 m4 m5 np fw rl ((plf rl wp cu np (0, rq, fi) t).2.1) wp cu (by omega) (by omega)) gx_XP0 0 gX0_packLongestFirst_X0_longestLeft rfl rfl rfl (by decide +kernel) ⟨Nat.le_of_ble_eq_true rfl, Nat.le_of_ble_eq_true rfl⟩ rfl rfl [0, 1, 2, 3] [4] [1, 2, 3, 4, 0] rfl (by decide) rfl (by decide) (by decide) (fun _ => rfl) (by decide) rfl rfl (Nat.le_of_ble_eq_true rfl) dX0_packLongestFirst_13 ⟨Nat.le_of_ble_eq_true rfl, Nat.le_of_ble_eq_true rfl⟩ 16 rfl (eqk ?_)
        refine g_istore_n C dX0_packLongestFirst_16 17 rfl (by decide) [1, 2, 3, 0] (lv' := [(0, .ref m0), (1, .int (nI ((plf rl wp cu np (0, rq, fi) t).1))), (2, .int (nI t)), (3, .int (oI (lgl ((plf rl wp cu np (0, rq, fi) t).2.1) wp cu np)))]) rfl ?_
        cases hlg : lgl (plf rl wp cu np (0, rq, fi) t).2.1 wp cu np with
        | none =>
          rw [show oI none = -1 from rfl]
          have hst : plf rl wp cu np (0, rq, fi) np = plf rl wp cu np (0, rq, fi) t := by have h9 := plf_stuck (t := t) (show plf1 rl wp cu np (plf rl wp cu np (0, rq, fi) t) = none from by simp [plf1, hlg]) (np - t); rwa [show t + (np - t) = np by omega] at h9
          refine g_iload_n C dX0_packLongestFirst_17 18 rfl rfl ?_
          refine g_iconst (v := -1) C dX0_packLongestFirst_18 19 rfl (by decide) ?_
          refine g_icmp_ne C dX0_packLongestFirst_19 26 22 (by decide) rfl (fun c19 => ?_) (fun c19 => ?_)
          · exact absurd rfl c19
          · refine g_iconst (v := -1) C dX0_packLongestFirst_22 23 rfl (by decide) ?_
            refine g_goto C dX0_packLongestFirst_23 31 (by decide) ?_
            refine g_istore C dX0_packLongestFirst_31 33 rfl (by decide) [1, 2, 3, 4, 0] (lv' := [(0, .ref m0), (1, .int (nI ((plf rl wp cu np (0, rq, fi) t).1))), (2, .int (nI t)), (3, .int (-1)), (4, .int (-1))]) rfl ?_
            refine g_iload C dX0_packLongestFirst_33 35 rfl rfl ?_
            refine g_iconst (v := -1) C dX0_packLongestFirst_35 36 rfl (by decide) ?_
            refine g_icmp_ne C dX0_packLongestFirst_36 41 39 (by decide) rfl (fun c36 => ?_) (fun c36 => ?_)
            · exact absurd rfl c36
            · refine g_iload_n C dX0_packLongestFirst_39 40 rfl rfl ?_
              exact g_iret C hQ (Nat.le_of_ble_eq_true rfl) (Nat.le_of_ble_eq_true rfl) dX0_packLongestFirst_40 () (by rw [hst]) (by rw [hst])
        | some p =>
          rw [show oI (some p) = nI p from rfl]
          have hp := lgl_lt hlg
          have hw1 := hwp p hp
          refine g_iload_n C dX0_packLongestFirst_17 18 rfl rfl ?_
          refine g_iconst (v := -1) C dX0_packLongestFirst_18 19 rfl (by decide) ?_
          refine g_icmp_ne C dX0_packLongestFirst_19 26 22 (by decide) rfl (fun c19 => ?_) (fun c19 => ?_)
          · refine g_aload_n C dX0_packLongestFirst_26 27 rfl rfl ?_
            refine g_iload_n C dX0_packLongestFirst_27 28 rfl rfl ?_
            refine g_callVi (ci := 4) (q0 := 0) (As := [.int (nI p)]) (rest := []) (wr := [(m1, .inl (cI, 24, .inl ((plf rl wp cu np (0, rq, fi) t).2.1))), (m2, .inl (cI, 24, .inl (fun jj => nI (wp jj))))]) (ws' := fun (_ : Unit) => [(m0, .inr (4, [.ref m1, .ref m2, .ref m3, .ref m4, .ref m5, .int (nI np), .int (nI fw), .long rl])), (m1, .inl (cI, 24, .inl ((plf rl wp cu np (0, rq, fi) t).2.1))), (m2, .inl (cI, 24, .inl (fun jj => nI (wp jj)))), (m3, .inl (cJ, 24, .inr (.inl cu))), (m4, .inl (cJ, 24, .inr (.inl ((plf rl wp cu np (0, rq, fi) t).2.2))))]) C (fun sz => c_X0_lowestWithRoom _ _ cI cJ cB cZ sz m0 m1 m2 m3 m4 m5 np fw rl cu ((plf rl wp cu np (0, rq, fi) t).2.2) p (by omega)) gx_XP0 1 gX0_packLongestFirst_X0_lowestWithRoom rfl rfl rfl (by decide +kernel) ⟨Nat.le_of_ble_eq_true rfl, Nat.le_of_ble_eq_true rfl⟩ rfl rfl [0, 3, 4] [1, 2] [2, 0, 1, 3, 4] rfl (by decide) rfl (by decide) (by decide) (fun _ => rfl) (by decide) rfl rfl (Nat.le_of_ble_eq_true rfl) dX0_packLongestFirst_28 ⟨Nat.le_of_ble_eq_true rfl, Nat.le_of_ble_eq_true rfl⟩ 31 rfl (eqk ?_)
            refine g_istore C dX0_packLongestFirst_31 33 rfl (by decide) [1, 2, 3, 4, 0] (lv' := [(0, .ref m0), (1, .int (nI ((plf rl wp cu np (0, rq, fi) t).1))), (2, .int (nI t)), (3, .int (nI p)), (4, .int (oI (wfind (rmr rl ((plf rl wp cu np (0, rq, fi) t).2.2) cu p) 24)))]) rfl ?_
            cases hwf : wfind (rmr rl (plf rl wp cu np (0, rq, fi) t).2.2 cu p) 24 with
            | none =>
              rw [show oI none = -1 from rfl]
              have hst : plf rl wp cu np (0, rq, fi) np = plf rl wp cu np (0, rq, fi) t := by have h9 := plf_stuck (t := t) (show plf1 rl wp cu np (plf rl wp cu np (0, rq, fi) t) = none from by simp [plf1, hlg, hwf]) (np - t); rwa [show t + (np - t) = np by omega] at h9
              refine g_iload C dX0_packLongestFirst_33 35 rfl rfl ?_
              refine g_iconst (v := -1) C dX0_packLongestFirst_35 36 rfl (by decide) ?_
              refine g_icmp_ne C dX0_packLongestFirst_36 41 39 (by decide) rfl (fun c36 => ?_) (fun c36 => ?_)
              · exact absurd rfl c36
              · refine g_iload_n C dX0_packLongestFirst_39 40 rfl rfl ?_
                exact g_iret C hQ (Nat.le_of_ble_eq_true rfl) (Nat.le_of_ble_eq_true rfl) dX0_packLongestFirst_40 () (by rw [hst]) (by rw [hst])
            | some r =>
              rw [show oI (some r) = nI r from rfl]
              have hr9 := (wfind_some hwf).1
              refine g_iload C dX0_packLongestFirst_33 35 rfl rfl ?_
              refine g_iconst (v := -1) C dX0_packLongestFirst_35 36 rfl (by decide) ?_
              refine g_icmp_ne C dX0_packLongestFirst_36 41 39 (by decide) rfl (fun c36 => ?_) (fun c36 => ?_)
              · refine g_aload_n C dX0_packLongestFirst_41 42 rfl rfl ?_
                refine g_get C iw_X0_packLongestFirst_X0 0 rfl rfl 3 (by decide) (by decide +kernel) rfl rfl dX0_packLongestFirst_42 45 rfl ?_
                refine g_iload C dX0_packLongestFirst_45 47 rfl rfl ?_
                refine g_dup2_11 C dX0_packLongestFirst_47 48 rfl rfl rfl ?_
                refine g_lald C 4 1 rfl rfl r rfl (by omega) (by decide) dX0_packLongestFirst_48 49 rfl ?_
                refine g_aload_n C dX0_packLongestFirst_49 50 rfl rfl ?_
                refine g_get C iw_X0_packLongestFirst_X0 0 rfl rfl 2 (by decide) (by decide +kernel) rfl rfl dX0_packLongestFirst_50 53 rfl ?_
                refine g_iload_n C dX0_packLongestFirst_53 54 rfl rfl ?_
                refine g_lald C 3 1 rfl rfl p rfl (by omega) (by decide) dX0_packLongestFirst_54 55 rfl ?_
                refine g_ladd C dX0_packLongestFirst_55 56 rfl ?_
                refine g_last C 4 1 rfl rfl r rfl (by omega) (by decide) dX0_packLongestFirst_56 57 rfl (ws' := [(m0, .inr (4, [.ref m1, .ref m2, .ref m3, .ref m4, .ref m5, .int (nI np), .int (nI fw), .long rl])), (m1, .inl (cI, 24, .inl ((plf rl wp cu np (0, rq, fi) t).2.1))), (m2, .inl (cI, 24, .inl (fun jj => nI (wp jj)))), (m3, .inl (cJ, 24, .inr (.inl cu))), (m4, .inl (cJ, 24, .inr (.inl (vp_updL ((plf rl wp cu np (0, rq, fi) t).2.2) r ((((plf rl wp cu np (0, rq, fi) t).2.2) r) + (cu p))))))]) rfl ?_
                refine g_aload_n C dX0_packLongestFirst_57 58 rfl rfl ?_
                refine g_get C iw_X0_packLongestFirst_X0 0 rfl rfl 0 (by decide) (by decide +kernel) rfl rfl dX0_packLongestFirst_58 61 rfl ?_
                refine g_aload_n C dX0_packLongestFirst_61 62 rfl rfl ?_
                refine g_get C iw_X0_packLongestFirst_X0 0 rfl rfl 1 (by decide) (by decide +kernel) rfl rfl dX0_packLongestFirst_62 65 rfl ?_
                refine g_iload_n C dX0_packLongestFirst_65 66 rfl rfl ?_
                refine g_iald C 2 0 rfl rfl p rfl (by omega) (by decide) dX0_packLongestFirst_66 67 rfl ?_
                refine g_iload C dX0_packLongestFirst_67 69 rfl rfl ?_
                refine g_iast C 1 0 rfl rfl (wp p) rfl (by omega) (by decide) dX0_packLongestFirst_69 70 rfl (ws' := [(m0, .inr (4, [.ref m1, .ref m2, .ref m3, .ref m4, .ref m5, .int (nI np), .int (nI fw), .long rl])), (m1, .inl (cI, 24, .inl (upd ((plf rl wp cu np (0, rq, fi) t).2.1) (wp p) (nI r)))), (m2, .inl (cI, 24, .inl (fun jj => nI (wp jj)))), (m3, .inl (cJ, 24, .inr (.inl cu))), (m4, .inl (cJ, 24, .inr (.inl (vp_updL ((plf rl wp cu np (0, rq, fi) t).2.2) r ((((plf rl wp cu np (0, rq, fi) t).2.2) r) + (cu p))))))]) rfl ?_
                refine g_iload_n C dX0_packLongestFirst_70 71 rfl rfl ?_
                refine g_iload C dX0_packLongestFirst_71 73 rfl rfl ?_
                refine g_iconst (v := nI 1) C dX0_packLongestFirst_73 74 rfl (by decide) ?_
                refine g_iaddn C dX0_packLongestFirst_74 75 rfl ?_
                refine g_maxn C (by decide +kernel) (by decide +kernel) (by decide +kernel) (by first | exact List.mem_of_getElem? (i := 1) rfl | exact List.mem_of_getElem? (i := 2) rfl | exact List.mem_of_getElem? (i := 3) rfl | exact List.mem_of_getElem? (i := 4) rfl | exact List.mem_of_getElem? (i := 5) rfl | exact List.mem_of_getElem? (i := 6) rfl | exact List.mem_of_getElem? (i := 7) rfl | exact List.mem_of_getElem? (i := 8) rfl | exact List.mem_of_getElem? (i := 9) rfl | exact List.mem_of_getElem? (i := 10) rfl | exact List.mem_of_getElem? (i := 11) rfl | exact List.mem_of_getElem? (i := 12) rfl | exact List.mem_of_getElem? (i := 13) rfl | exact List.mem_of_getElem? (i := 14) rfl | exact List.mem_of_getElem? (i := 15) rfl | exact List.mem_of_getElem? (i := 16) rfl | exact List.mem_of_getElem? (i := 17) rfl | exact List.mem_of_getElem? (i := 18) rfl | exact List.mem_of_getElem? (i := 19) rfl | exact List.mem_of_getElem? (i := 20) rfl | exact List.mem_of_getElem? (i := 21) rfl | exact List.mem_of_getElem? (i := 22) rfl | exact List.mem_of_getElem? (i := 23) rfl | exact List.mem_of_getElem? (i := 24) rfl | exact List.mem_of_getElem? (i := 25) rfl | exact List.mem_of_getElem? (i := 26) rfl | exact List.mem_of_getElem? (i := 27) rfl | exact List.mem_of_getElem? (i := 28) rfl | exact List.mem_of_getElem? (i := 29) rfl | exact List.mem_of_getElem? (i := 30) rfl | exact List.mem_of_getElem? (i := 31) rfl | exact List.mem_of_getElem? (i := 32) rfl | exact List.mem_of_getElem? (i := 33) rfl | exact List.mem_of_getElem? (i := 34) rfl | exact List.mem_of_getElem? (i := 35) rfl | exact List.mem_of_getElem? (i := 36) rfl | exact List.mem_of_getElem? (i := 37) rfl | exact List.mem_of_getElem? (i := 38) rfl | exact List.mem_of_getElem? (i := 39) rfl | exact List.mem_of_getElem? (i := 40) rfl | exact List.mem_of_getElem? (i := 41) rfl | exact List.mem_of_getElem? (i := 42) rfl | exact List.mem_of_getElem? (i := 43) rfl | exact List.mem_of_getElem? (i := 44) rfl | exact List.mem_of_getElem? (i := 45) rfl | exact List.mem_of_getElem? (i := 46) rfl | exact List.mem_of_getElem? (i := 47) rfl | exact List.mem_of_getElem? (i := 48) rfl | exact List.mem_of_getElem? (i := 49) rfl | exact List.mem_of_getElem? (i := 50) rfl | exact List.mem_of_getElem? (i := 51) rfl | exact List.mem_of_getElem? (i := 52) rfl | exact List.mem_of_getElem? (i := 53) rfl | exact List.mem_of_getElem? (i := 54) rfl | exact List.mem_of_getElem? (i := 55) rfl | exact List.mem_of_getElem? (i := 56) rfl | exact List.mem_of_getElem? (i := 57) rfl | exact List.mem_of_getElem? (i := 58) rfl | exact List.mem_of_getElem? (i := 59) rfl) dX0_packLongestFirst_75 78 rfl (Nat.le_of_ble_eq_true rfl) (Nat.le_of_ble_eq_true rfl) (Nat.zero_le _) (Nat.zero_le _) (by omega) (by omega) ?_
                refine g_istore_n C dX0_packLongestFirst_78 79 rfl (by decide) [1, 0, 2, 3, 4] (lv' := [(0, .ref m0), (1, .int (nI (Nat.max ((plf rl wp cu np (0, rq, fi) t).1) (r + 1)))), (2, .int (nI t)), (3, .int (nI p)), (4, .int (nI r))]) rfl ?_
                refine g_iinc (v := nI (t + 1)) C dX0_packLongestFirst_79 82 rfl rfl (nI_add t 1) (by decide) [1, 2, 0, 3, 4] (lv' := [(0, .ref m0), (1, .int (nI (Nat.max ((plf rl wp cu np (0, rq, fi) t).1) (r + 1)))), (2, .int (nI (t + 1))), (3, .int (nI p)), (4, .int (nI r))]) rfl ?_
                refine g_goto C dX0_packLongestFirst_82 4 (by decide) ?_
                refine g_lv [0, 1, 2] (lv' := [(0, .ref m0), (1, .int (nI (Nat.max ((plf rl wp cu np (0, rq, fi) t).1) (r + 1)))), (2, .int (nI (t + 1)))]) rfl ?_
                have e9 : plf rl wp cu np (0, rq, fi) (t + 1) = (Nat.max ((plf rl wp cu np (0, rq, fi) t).1) (r + 1), upd ((plf rl wp cu np (0, rq, fi) t).2.1) (wp p) (nI r), vp_updL ((plf rl wp cu np (0, rq, fi) t).2.2) r ((((plf rl wp cu np (0, rq, fi) t).2.2) r) + (cu p))) := by show (plf1 _ _ _ _ _).getD _ = _; simp [plf1, hlg, hwf]
                rw [show Nat.max ((plf rl wp cu np (0, rq, fi) t).1) (r + 1) = (plf rl wp cu np (0, rq, fi) (t + 1)).1 from by rw [e9], show upd ((plf rl wp cu np (0, rq, fi) t).2.1) (wp p) (nI r) = (plf rl wp cu np (0, rq, fi) (t + 1)).2.1 from by rw [e9], show vp_updL ((plf rl wp cu np (0, rq, fi) t).2.2) r ((((plf rl wp cu np (0, rq, fi) t).2.2) r) + (cu p)) = (plf rl wp cu np (0, rq, fi) (t + 1)).2.2 from by rw [e9]]
                exact hloop_ih (t + 1) (by omega) (by omega) (by rw [e9]; exact Nat.max_le.mpr ⟨hu, by omega⟩)
              · exact absurd c36 (nI_m1 (by omega))
          · exact absurd c19 (nI_m1 (by omega))
  exact hloop (np + 1) 0 (by omega) (by omega) (Nat.zero_le 24)
