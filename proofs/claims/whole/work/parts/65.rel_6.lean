/-! the reels' call -/
theorem fll_out (f : Nat → Int32) (v : Int32) : ∀ n j, n ≤ j → fll f v n j = f j
  | 0, j, _ => rfl
  | n + 1, j, h => by show upd _ _ _ j = _; rw [upd_ne _ _ (by omega)]; exact fll_out f v n j (by omega)
theorem RR_fll {wn : Nat} (hw : wn ≤ 24) {rq mr : Nat → Int32} (h : RR wn rq mr) : RR wn (fll rq (-1) 24) (fll mr (-1) wn) := by
  have hm : ∀ w, w < 24 → fll mr (-1) wn w = -1 := fun w h24 => by
    rcases Nat.lt_or_ge w wn with q | q
    · exact fll_at mr (-1) wn w q
    · rw [fll_out mr (-1) wn w q]; exact h.2 w q h24
  exact ⟨fun w h24 => by rw [fll_at rq (-1) 24 w h24, hm w h24], fun w _ h24 => hm w h24⟩
theorem RR_wn {wn w1 : Nat} {rq mr : Nat → Int32} (h : RR wn rq mr) (hw : wn ≤ w1) : RR w1 rq mr := ⟨h.1, fun w h1 h2 => h.2 w (by omega) h2⟩
theorem kt_out {r : Nat → Int32} {wp a : Nat → Nat} {w : Nat} : ∀ {n : Nat}, (∀ i, i < n → ¬ w = wp i) → kt r wp a n w = r w
  | 0, _ => rfl
  | n + 1, h => by show upd _ _ _ w = _; rw [upd_ne _ _ (h n (by omega))]; exact kt_out (fun i hi => h i (by omega))
theorem pfS_z (rl : Int64) (cu : Nat → Int64) (wp : Nat → Nat) (fi : Nat → Int64) (tr : Nat → Nat) (rq : Nat → Int32) : (pfS 0 rl cu wp 0 0 0 fi (tr, 0 + 1, rq)).2 = (0, rq) := by
  unfold pfS
  rw [if_neg (by dsimp only; omega)]
  rfl
theorem pfS_top (np : Nat) (h0 : 0 < np) (h8 : np ≤ 24) (rl : Int64) (cu len : Nat → Int64) (hl : ∀ j, j < np → cu j = len j) (wp : Nat → Nat) (fi : Nat → Int64) (tr : Nat → Nat) (rq : Nat → Int32) {N : Nat} {a : Nat → Nat} (hN : N ≤ np) (hs : ffz N rl len np = some a) (hn : ∀ n, 0 < n → n < N → ffz n rl len np = none) : (pfS np rl cu wp np 0 0 (fllL fi 0 24) (tr, np + 1, rq)).2.1 = N ∧ (pfS np rl cu wp np 0 0 (fllL fi 0 24) (tr, np + 1, rq)).2.2 = kt rq wp a np := by
  have hN0 : 0 < N := by
    rcases Nat.eq_zero_or_pos N with e | e
    · subst e
      obtain ⟨m, rfl⟩ : ∃ m, np = m + 1 := ⟨np - 1, by omega⟩
      unfold ffz at hs
      rw [ff_succ, ffs_none (fun j _ => by unfold ffg; rw [if_neg (by omega)])] at hs
      cases hs
    · exact e
  have e : ∀ n, ff n rl cu np 0 (fllL fi 0 24) (fun _ => 0) = ffz n rl len np := fun n => by
    rw [ffz_us n rl cu np h8 fi]
    exact ff_lcongr n rl np 0 _ _ (fun j hj => hl j (by omega))
  have h := (pfS_BR np rl cu wp np 0 0 (fllL fi 0 24) (tr, np + 1, rq) (fun _ => 0) (by omega) (fun i hi => absurd hi (Nat.not_lt_zero i)) rfl).2
  generalize pfS np rl cu wp np 0 0 (fllL fi 0 24) (tr, np + 1, rq) = s at h ⊢
  rcases h with ⟨b1, _, _⟩ | ⟨M, x, b1, b2, b3, b4, b5, b6⟩
  · have := b1 N (by omega) (by dsimp only; omega)
    dsimp only at this
    rw [e N, hs] at this
    cases this
  · dsimp only at b3
    rw [e M] at b3
    have hz : 0 < M := by
      rcases Nat.eq_zero_or_pos M with z | z
      · subst z
        obtain ⟨m, rfl⟩ : ∃ m, np = m + 1 := ⟨np - 1, by omega⟩
        unfold ffz at b3
        rw [ff_succ, ffs_none (fun j _ => by unfold ffg; rw [if_neg (by omega)])] at b3
        cases b3
      · exact z
    have hMN : M = N := by
      rcases Nat.lt_trichotomy M N with q | q | q
      · rw [hn M hz q] at b3; cases b3
      · exact q
      · have := b4 N (by omega) q
        dsimp only at this
        rw [e N, hs] at this; cases this
    subst hMN
    rw [hs] at b3
    cases b3
    exact ⟨b5, b6⟩
theorem RR_reel {wn : Nat} (hw : wn ≤ 24) {cut len : Nat → Int64} (hc : ∀ i, i < wn → cut i = len i ∧ (len i = -1 ∨ ∃ v, v < 2 ^ 40 ∧ len i = lN v)) {rq mr : Nat → Int32} (h : RR wn rq mr) {L : Int64} {wp pk tr : Nat → Nat} {cu fi us : Nat → Int64} {fw : Nat} {rv rm : Int32} {rq1 mr1 : Nat → Int32} {x2 x5 : Nat → Nat} {x3 x4 : Nat → Int64} {x6 x7 : Nat} (e1 : (rv, rq1, x2, x3, x4, x5, x6, x7) = Freel cut wn L rq wp cu fi tr fw) (e2 : Greel len wn L mr pk us rm mr1) : rv = rm ∧ RR wn rq1 mr1 := by
  obtain ⟨k1, k2⟩ := coll_mcoll (wp := wp) (pk := pk) (cu := cu) hc
  have hle := mcoll_le len pk wn
  have hlt := mcoll_lt len pk wn
  have hf := RR_fll hw h
  have hrv : rv = (Freel cut wn L rq wp cu fi tr fw).1 := congrArg (fun z => z.1) e1
  have hrq : rq1 = (Freel cut wn L rq wp cu fi tr fw).2.1 := congrArg (fun z => z.2.1) e1
  rw [hrv, hrq]
  clear hrv hrq e1
  unfold Freel
  unfold Greel at e2
  have f0 : ∀ r, r < 24 → fllL fi 0 24 r = 0 := fun r hr => fllL_at fi 0 24 r hr
  generalize hcc : coll cut wp cu wn = C at k1 k2 ⊢
  generalize hmm : mcoll len pk wn = M at k1 k2 e2 hle hlt
  have hbase := hf
  generalize fll rq (-1) 24 = r24 at hf hbase ⊢
  generalize fll mr (-1) wn = m24 at hf hbase e2
  obtain ⟨c1, c2, c3⟩ := C
  obtain ⟨m1, m2⟩ := M
  dsimp only at k1 k2 e2 hle hlt ⊢
  subst k1
  have hno : wfind (fun i => decide (L < c3 i)) c1 = none ↔ ∀ i, i < c1 → len (m2 i) ≤ L := by
    rw [wfind_none]
    constructor
    · intro q i hi
      have := q i hi
      rw [(k2 i hi).2] at this
      simp only [decide_eq_false_iff_not] at this
      exact Int64.not_lt.mp this
    · intro q i hi
      simp only [decide_eq_false_iff_not]
      rw [(k2 i hi).2]
      exact Int64.not_lt.mpr (q i hi)
  rcases e2 with ⟨⟨k, hk1, hk2⟩, e3, e4⟩ | ⟨hall, e2⟩
  · rw [if_neg (fun z => absurd hk2 (Int64.not_lt.mpr (hno.mp z k hk1)))]
    rw [e3, e4]
    exact ⟨rfl, hbase⟩
  · rw [if_pos (hno.mpr hall)]
    rcases e2 with ⟨z0, e3, e4⟩ | ⟨z0, z8, N, a, n0, n1, n2, n3, e3, e4⟩ | ⟨z8, e3, e4⟩
    · subst z0
      rw [if_pos (by omega)]
      dsimp only
      have hz := pfS_z L c3 c2 (fllL fi 0 24) tr r24
      generalize pfS 0 L c3 c2 0 0 0 (fllL fi 0 24) (tr, 0 + 1, r24) = s at hz ⊢
      rw [hz, e3, e4]
      exact ⟨rfl, hbase⟩
    · rw [if_pos z8]
      dsimp only
      have ht := pfS_top c1 z0 (by omega) L c3 (fun kk => len (m2 kk)) (fun j hj => (k2 j hj).2) c2 fi tr r24 n1 n2 n3
      generalize pfS c1 L c3 c2 c1 0 0 (fllL fi 0 24) (tr, c1 + 1, r24) = s at ht ⊢
      rw [ht.1, ht.2, e3, e4]
      refine ⟨rfl, fun w hw24 => ?_, fun w h1 h2 => ?_⟩
      · exact kt_congr (fun i hi => ⟨(k2 i hi).1, rfl⟩) (hbase.1 w hw24)
      · rw [kt_out (fun i hi z => by have := hlt i hi; omega)]
        exact hbase.2 w h1 h2
    · rw [if_neg (by omega)]
      dsimp only
      have hp := plf_mpl (us := us) (L := L) (wp := c2) (pk := m2) (cu := c3) (len := len) (k := c1) (wn := wn) (by omega) hw (fun i hi => ⟨(k2 i hi).1, (k2 i hi).2, hlt i hi, hall i hi⟩) hbase.1 hbase.2 f0 (Nat.le_refl c1)
      generalize plf L c2 c3 c1 (0, r24, fllL fi 0 24) c1 = p at hp ⊢
      rw [e3, e4]
      exact ⟨by rw [hp.1], hp.2.2.1, hp.2.2.2.2.2⟩
