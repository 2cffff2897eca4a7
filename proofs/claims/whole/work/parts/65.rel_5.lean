/-! reels -/
theorem kt_congr {r1 r2 : Nat → Int32} {wp pk a b : Nat → Nat} {w : Nat} : ∀ {n : Nat}, (∀ i, i < n → wp i = pk i ∧ a i = b i) → r1 w = r2 w → kt r1 wp a n w = kt r2 pk b n w
  | 0, _, h => h
  | n + 1, e, h => by
    have ih := kt_congr (n := n) (fun i hi => e i (by omega)) h
    show upd _ _ _ w = upd _ _ _ w
    rw [(e n (by omega)).1, (e n (by omega)).2]
    unfold upd
    split
    · rfl
    · exact ih
theorem kt_over {r : Nat → Int32} {wp a b : Nat → Nat} : ∀ {n : Nat}, kt (kt r wp a n) wp b n = kt r wp b n := by
  have key : ∀ n w, (kt r wp b n w = r w ∧ ∀ r', kt r' wp b n w = r' w) ∨ (∀ r', kt r' wp b n w = kt r wp b n w) := by
    intro n
    induction n with
    | zero => exact fun w => Or.inl ⟨rfl, fun _ => rfl⟩
    | succ n ih =>
      intro w
      by_cases e : w = wp n
      · right; intro r'
        show upd _ _ _ w = upd _ _ _ w
        rw [e, upd_at, upd_at]
      · rcases ih w with h | h
        · left
          refine ⟨?_, fun r' => ?_⟩
          · show upd _ _ _ w = _
            rw [upd_ne _ _ e]; exact h.1
          · show upd _ _ _ w = _
            rw [upd_ne _ _ e]; exact h.2 r'
        · right; intro r'
          show upd _ _ _ w = upd _ _ _ w
          rw [upd_ne _ _ e, upd_ne _ _ e]; exact h r'
  have no : ∀ n w, (∀ i, i < n → ¬ w = wp i) → ∀ (r' : Nat → Int32) (c : Nat → Nat), kt r' wp c n w = r' w := by
    intro n
    induction n with
    | zero => exact fun w _ r' c => rfl
    | succ n ih =>
      intro w h r' c
      show upd _ _ _ w = _
      rw [upd_ne _ _ (h n (by omega))]; exact ih w (fun i hi => h i (by omega)) r' c
  have yes : ∀ n w i, i < n → w = wp i → ∀ (r1 r2 : Nat → Int32) (c : Nat → Nat), kt r1 wp c n w = kt r2 wp c n w := by
    intro n
    induction n with
    | zero => exact fun w i h => absurd h (Nat.not_lt_zero i)
    | succ n ih =>
      intro w i hi hw r1 r2 c
      show upd _ _ _ w = upd _ _ _ w
      by_cases e : w = wp n
      · rw [e, upd_at, upd_at]
      · rw [upd_ne _ _ e, upd_ne _ _ e]
        rcases Nat.lt_or_ge i n with q | q
        · exact ih w i q hw r1 r2 c
        · have : i = n := by omega
          subst this; exact absurd hw e
  intro n
  funext w
  rcases Classical.em (∃ i, i < n ∧ w = wp i) with ⟨i, hi, e⟩ | q
  · exact yes n w i hi e _ _ b
  · rw [no n w (fun i hi e => q ⟨i, hi, e⟩), no n w (fun i hi e => q ⟨i, hi, e⟩), no n w (fun i hi e => q ⟨i, hi, e⟩)]
/-- the best that a search finds below what it had -/
def BR (wp : Nat → Nat) (np : Nat) (h : Nat → Option (Nat → Nat)) (u fw : Nat) (rq : Nat → Int32) (fw1 : Nat) (rq1 : Nat → Int32) : Prop :=
  ((∀ n, u ≤ n → n < fw → h n = none) ∧ fw1 = fw ∧ rq1 = rq) ∨ ∃ N a, u ≤ N ∧ N < fw ∧ h N = some a ∧ (∀ n, u ≤ n → n < N → h n = none) ∧ fw1 = N ∧ rq1 = kt rq wp a np
theorem BR_step {wp : Nat → Nat} {np : Nat} {h1 h2 h : Nat → Option (Nat → Nat)} {u fw fw1 fw2 : Nat} {rq rq1 rq2 : Nat → Int32} (a : BR wp np h1 u fw rq fw1 rq1) (b : BR wp np h2 u fw1 rq1 fw2 rq2) (e1 : ∀ n x, h1 n = some x → h n = some x) (e2 : ∀ n, h1 n = none → h n = h2 n) : BR wp np h u fw rq fw2 rq2 := by
  rcases a with ⟨a1, rfl, rfl⟩ | ⟨N, x, a1, a2, a3, a4, rfl, rfl⟩
  · rcases b with ⟨b1, rfl, rfl⟩ | ⟨N, x, b1, b2, b3, b4, rfl, rfl⟩
    · exact Or.inl ⟨fun n h3 h4 => by rw [e2 n (a1 n h3 h4)]; exact b1 n h3 h4, rfl, rfl⟩
    · exact Or.inr ⟨fw2, x, b1, b2, by rw [e2 _ (a1 _ b1 b2)]; exact b3, fun n h3 h4 => by rw [e2 n (a1 n h3 (by omega))]; exact b4 n h3 h4, rfl, rfl⟩
  · rcases b with ⟨b1, rfl, rfl⟩ | ⟨M, y, b1, b2, b3, b4, rfl, rfl⟩
    · exact Or.inr ⟨_, x, a1, a2, e1 _ x a3, fun n h3 h4 => by rw [e2 n (a4 n h3 h4)]; exact b1 n h3 h4, rfl, rfl⟩
    · exact Or.inr ⟨_, y, b1, by omega, by rw [e2 _ (a4 _ b1 b2)]; exact b3, fun n h3 h4 => by rw [e2 n (a4 n h3 (by omega))]; exact b4 n h3 h4, rfl, kt_over⟩
theorem ffs_snoc {α : Type} {g : Nat → Option α} : ∀ {k r : Nat}, (∀ x, ffs g k r = some x → ffs g (k + 1) r = some x) ∧ (ffs g k r = none → ffs g (k + 1) r = g (r + k))
  | 0, r => by
    refine ⟨fun x h => (by cases h), fun _ => ?_⟩
    show (match g r with | some a => some a | none => none) = g (r + 0)
    rw [Nat.add_zero]
    cases g r <;> rfl
  | k + 1, r => by
    have ih := ffs_snoc (g := g) (k := k) (r := r + 1)
    constructor
    · intro x h
      unfold ffs at h ⊢
      cases hc : g r with
      | some a => rw [hc] at h; exact h
      | none => rw [hc] at h; simp only at h ⊢; exact ih.1 x h
    · intro h
      unfold ffs at h ⊢
      cases hc : g r with
      | some a => rw [hc] at h; cases h
      | none => rw [hc] at h; simp only at h ⊢; rw [ih.2 h]; congr 1; omega
theorem rmr_iff {rl : Int64} {fi cu : Nat → Int64} {p r : Nat} : rmr rl fi cu p r = true ↔ fi r + cu p ≤ rl := by
  unfold rmr
  simp only [Bool.not_eq_true', decide_eq_false_iff_not]
  exact Int64.not_lt
theorem pfS_BR (np : Nat) (rl : Int64) (cu : Nat → Int64) (wp : Nat → Nat) : ∀ (d piece used : Nat) (fi : Nat → Int64) (s : psT) (tn : Nat → Nat), piece + d = np → (∀ i, i < piece → s.1 i = tn i) → used = tpo tn piece → (∀ i, i < piece → (pfS np rl cu wp d piece used fi s).1 i = tn i) ∧ BR wp np (fun n => ff n rl cu d piece fi tn) used s.2.1 s.2.2 (pfS np rl cu wp d piece used fi s).2.1 (pfS np rl cu wp d piece used fi s).2.2
  | 0, piece, used, fi, s, tn, hp, ht, hu => by
    unfold pfS
    by_cases c : s.2.1 ≤ used
    · rw [if_pos c]
      exact ⟨ht, Or.inl ⟨fun n h1 h2 => absurd h2 (by omega), rfl, rfl⟩⟩
    · rw [if_neg c]
      refine ⟨ht, Or.inr ⟨used, tn, Nat.le_refl _, by omega, rfl, fun n h1 h2 => absurd h2 (by omega), rfl, ?_⟩⟩
      funext w
      exact kt_congr (fun i hi => ⟨rfl, ht i (by omega)⟩) rfl
  | d + 1, piece, used, fi, s, tn, hp, ht, hu => by
    rw [pfS_succ]
    by_cases c : s.2.1 ≤ used
    · rw [if_pos c]
      exact ⟨ht, Or.inl ⟨fun n h1 h2 => absurd h2 (by omega), rfl, rfl⟩⟩
    · rw [if_neg c]
      have loop : ∀ k, k ≤ used + 1 → (∀ i, i < piece → (ploop (poS np rl cu wp d piece used fi) k s).1 i = tn i) ∧ BR wp np (fun n => ffs (ffg n rl cu d piece fi tn) k 0) used s.2.1 s.2.2 (ploop (poS np rl cu wp d piece used fi) k s).2.1 (ploop (poS np rl cu wp d piece used fi) k s).2.2 := by
        intro k
        induction k with
        | zero => exact fun _ => ⟨ht, Or.inl ⟨fun _ _ _ => rfl, rfl, rfl⟩⟩
        | succ k ih =>
          intro hk
          obtain ⟨i1, i2⟩ := ih (by omega)
          show (∀ i, i < piece → (poS np rl cu wp d piece used fi k (ploop (poS np rl cu wp d piece used fi) k s)).1 i = tn i) ∧ BR wp np _ used s.2.1 s.2.2 (poS np rl cu wp d piece used fi k (ploop (poS np rl cu wp d piece used fi) k s)).2.1 (poS np rl cu wp d piece used fi k (ploop (poS np rl cu wp d piece used fi) k s)).2.2
          generalize ploop (poS np rl cu wp d piece used fi) k s = st at i1 i2
          unfold poS
          have sn : ∀ n, (∀ x, ffs (ffg n rl cu d piece fi tn) k 0 = some x → ffs (ffg n rl cu d piece fi tn) (k + 1) 0 = some x) ∧ (ffs (ffg n rl cu d piece fi tn) k 0 = none → ffs (ffg n rl cu d piece fi tn) (k + 1) 0 = ffg n rl cu d piece fi tn k) := fun n => by
            have := ffs_snoc (g := ffg n rl cu d piece fi tn) (k := k) (r := 0)
            rw [Nat.zero_add] at this
            exact this
          by_cases c2 : rmr rl fi cu piece k = true
          · rw [if_pos c2]
            have hfit := rmr_iff.mp c2
            have tn' : ∀ i, i < piece + 1 → updN st.1 piece k i = updN tn piece k i := fun i hi => by
              by_cases e : i = piece
              · subst e; rw [updN_at, updN_at]
              · rw [updN_ne _ _ e, updN_ne _ _ e]; exact i1 i (by omega)
            have us' : Nat.max used (k + 1) = tpo (updN tn piece k) (piece + 1) := by
              rw [tpo_updN _ _ _ (by omega), ← hu]
              show Nat.max used (k + 1) = _
              have : Nat.max used (k + 1) = if used ≤ k + 1 then k + 1 else used := rfl
              rw [this]
              split <;> split <;> omega
            obtain ⟨j1, j2⟩ := pfS_BR np rl cu wp d (piece + 1) (Nat.max used (k + 1)) (vp_updL fi k (fi k + cu piece)) (updN st.1 piece k, st.2.1, st.2.2) (updN tn piece k) (by omega) tn' us'
            refine ⟨fun i hi => ?_, ?_⟩
            · rw [j1 i (by omega), updN_ne _ _ (by omega)]
            · have hmx : Nat.max used (k + 1) = if used ≤ k + 1 then k + 1 else used := rfl
              have j3 : BR wp np (fun n => ffg n rl cu d piece fi tn k) used st.2.1 st.2.2 (pfS np rl cu wp d (piece + 1) (Nat.max used (k + 1)) (vp_updL fi k (fi k + cu piece)) (updN st.1 piece k, st.2.1, st.2.2)).2.1 (pfS np rl cu wp d (piece + 1) (Nat.max used (k + 1)) (vp_updL fi k (fi k + cu piece)) (updN st.1 piece k, st.2.1, st.2.2)).2.2 := by
                rcases j2 with ⟨a1, a2, a3⟩ | ⟨N, x, a1, a2, a3, a4, a5, a6⟩
                · refine Or.inl ⟨fun n h1 h2 => ?_, a2, a3⟩
                  show ffg n rl cu d piece fi tn k = none
                  unfold ffg
                  by_cases c3 : k < n ∧ fi k + cu piece ≤ rl
                  · rw [if_pos c3]; exact a1 n (by rw [hmx]; split <;> omega) h2
                  · rw [if_neg c3]
                · rw [hmx] at a1
                  refine Or.inr ⟨N, x, by split at a1 <;> omega, a2, ?_, fun n h1 h2 => ?_, a5, a6⟩
                  · show ffg N rl cu d piece fi tn k = some x
                    unfold ffg
                    rw [if_pos ⟨by split at a1 <;> omega, hfit⟩]; exact a3
                  · show ffg n rl cu d piece fi tn k = none
                    unfold ffg
                    by_cases c3 : k < n ∧ fi k + cu piece ≤ rl
                    · rw [if_pos c3]; exact a4 n (by rw [hmx]; split <;> omega) h2
                    · rw [if_neg c3]
              exact BR_step i2 j3 (fun n x hx => (sn n).1 x hx) (fun n hx => (sn n).2 hx)
          · rw [if_neg c2]
            refine ⟨i1, ?_⟩
            have hno : ∀ n, ffg n rl cu d piece fi tn k = none := fun n => by
              unfold ffg
              rw [if_neg (fun z => c2 (rmr_iff.mpr z.2))]
            exact BR_step (h2 := fun n => ffg n rl cu d piece fi tn k) i2 (Or.inl ⟨fun n _ _ => hno n, rfl, rfl⟩) (fun n x hx => (sn n).1 x hx) (fun n hx => (sn n).2 hx)
      have := loop (used + 1) (Nat.le_refl _)
      refine ⟨this.1, ?_⟩
      have e : (fun n => ff n rl cu (d + 1) piece fi tn) = (fun n => ffs (ffg n rl cu d piece fi tn) (used + 1) 0) := by
        funext n
        rw [ff_succ, hu]
        rfl
      rw [e]
      exact this.2
theorem ff_lcongr (n : Nat) (lim : Int64) {l1 l2 : Nat → Int64} : ∀ (d k : Nat) (b : Nat → Int64) (tn : Nat → Nat), (∀ j, j < k + d → l1 j = l2 j) → ff n lim l1 d k b tn = ff n lim l2 d k b tn
  | 0, _, _, _, _ => rfl
  | d + 1, k, b, tn, h => by
    rw [ff_succ, ff_succ]
    refine ffs_congr (fun r _ _ => ?_)
    unfold ffg
    rw [h k (by omega)]
    split
    · exact ff_lcongr n lim d (k + 1) _ _ (fun j hj => h j (by omega))
    · rfl
theorem coll_mcoll {cut len : Nat → Int64} {wp pk : Nat → Nat} {cu : Nat → Int64} : ∀ {n : Nat}, (∀ i, i < n → cut i = len i ∧ (len i = -1 ∨ ∃ v, v < 2 ^ 40 ∧ len i = lN v)) → (coll cut wp cu n).1 = (mcoll len pk n).1 ∧ ∀ i, i < (mcoll len pk n).1 → (coll cut wp cu n).2.1 i = (mcoll len pk n).2 i ∧ (coll cut wp cu n).2.2 i = len ((mcoll len pk n).2 i)
  | 0, _ => ⟨rfl, fun i h => absurd h (Nat.not_lt_zero i)⟩
  | n + 1, h => by
    obtain ⟨i1, i2⟩ := coll_mcoll (cut := cut) (len := len) (wp := wp) (pk := pk) (cu := cu) (n := n) (fun i hi => h i (by omega))
    obtain ⟨h1, h2⟩ := h n (by omega)
    unfold coll mcoll
    rcases h2 with e | ⟨v, hv, e⟩
    · rw [if_pos (h1.trans e), if_neg (by rw [e]; decide)]
      exact ⟨i1, i2⟩
    · rw [if_neg (by rw [h1, e]; exact lN_m1 (by omega)), if_pos (by rw [e]; exact Int64.not_lt.mp (lN_neg (by omega)))]
      refine ⟨by dsimp only; rw [i1], fun i hi => ?_⟩
      dsimp only at hi ⊢
      rw [i1]
      by_cases c : i = (mcoll len pk n).1
      · subst c; rw [updN_at, updN_at, updL_at]; exact ⟨rfl, h1⟩
      · rw [updN_ne _ _ c, updN_ne _ _ c, updL_ne _ _ c]; exact i2 i (by omega)
theorem lgl_mlg {rq mr : Nat → Int32} {wp pk : Nat → Nat} {cu len : Nat → Int64} (hr : ∀ w, w < 24 → rq w = mr w) : ∀ {n : Nat}, (∀ i, i < n → wp i = pk i ∧ cu i = len (pk i) ∧ pk i < 24) → mlg mr pk len n = (lgl rq wp cu n).map wp
  | 0, _ => rfl
  | n + 1, h => by
    have ih := lgl_mlg hr (n := n) (fun i hi => h i (by omega))
    obtain ⟨h1, h2, h3⟩ := h n (by omega)
    unfold mlg lgl
    rw [ih]
    cases hc : lgl rq wp cu n with
    | none =>
      simp only [Option.map_none]
      rw [h1, hr (pk n) h3]
      by_cases c : mr (pk n) = -1
      · rw [if_pos c, if_pos c, Option.map_some, h1]
      · rw [if_neg c, if_neg c]; rfl
    | some j =>
      have hj := lgl_lt hc
      obtain ⟨g1, g2, g3⟩ := h j (by omega)
      simp only [Option.map_some]
      rw [h1, hr (pk n) h3, h2, g2, g1]
      by_cases c : mr (pk n) = -1 ∧ len (pk j) < len (pk n)
      · rw [if_pos c, if_pos c, Option.map_some, h1]
      · rw [if_neg c, if_neg c, Option.map_some, g1]
theorem plf_mpl {L : Int64} {wp pk : Nat → Nat} {cu len : Nat → Int64} {k wn : Nat} (hk : k ≤ 24) (hwn : wn ≤ 24) (hp : ∀ i, i < k → wp i = pk i ∧ cu i = len (pk i) ∧ pk i < wn ∧ len (pk i) ≤ L) {rq mr : Nat → Int32} {fi us : Nat → Int64} (hr : ∀ w, w < 24 → rq w = mr w) (hm : ∀ w, wn ≤ w → w < 24 → mr w = -1) (hf : ∀ r, r < 24 → fi r = 0) : ∀ {t : Nat}, t ≤ k →
    (plf L wp cu k (0, rq, fi) t).1 = (mpl L pk len k (0, us, mr) t).1 ∧ (mpl L pk len k (0, us, mr) t).1 ≤ t ∧
    (∀ w, w < 24 → (plf L wp cu k (0, rq, fi) t).2.1 w = (mpl L pk len k (0, us, mr) t).2.2 w) ∧
    (∀ r, r < (mpl L pk len k (0, us, mr) t).1 → (plf L wp cu k (0, rq, fi) t).2.2 r = (mpl L pk len k (0, us, mr) t).2.1 r) ∧
    (∀ r, (mpl L pk len k (0, us, mr) t).1 ≤ r → r < 24 → (plf L wp cu k (0, rq, fi) t).2.2 r = 0) ∧
    (∀ w, wn ≤ w → w < 24 → (mpl L pk len k (0, us, mr) t).2.2 w = -1)
  | 0, _ => ⟨rfl, Nat.le_refl 0, hr, fun r h => absurd h (Nat.not_lt_zero r), fun r _ h => hf r h, hm⟩
  | t + 1, ht => by
    have ih := plf_mpl (us := us) hk hwn hp hr hm hf (t := t) (by omega)
    show ((plf1 L wp cu k (plf L wp cu k (0, rq, fi) t)).getD (plf L wp cu k (0, rq, fi) t)).1 = (mpl1 L pk len k (mpl L pk len k (0, us, mr) t)).1 ∧ (mpl1 L pk len k (mpl L pk len k (0, us, mr) t)).1 ≤ t + 1 ∧
      (∀ w, w < 24 → ((plf1 L wp cu k (plf L wp cu k (0, rq, fi) t)).getD (plf L wp cu k (0, rq, fi) t)).2.1 w = (mpl1 L pk len k (mpl L pk len k (0, us, mr) t)).2.2 w) ∧
      (∀ r, r < (mpl1 L pk len k (mpl L pk len k (0, us, mr) t)).1 → ((plf1 L wp cu k (plf L wp cu k (0, rq, fi) t)).getD (plf L wp cu k (0, rq, fi) t)).2.2 r = (mpl1 L pk len k (mpl L pk len k (0, us, mr) t)).2.1 r) ∧
      (∀ r, (mpl1 L pk len k (mpl L pk len k (0, us, mr) t)).1 ≤ r → r < 24 → ((plf1 L wp cu k (plf L wp cu k (0, rq, fi) t)).getD (plf L wp cu k (0, rq, fi) t)).2.2 r = 0) ∧
      (∀ w, wn ≤ w → w < 24 → (mpl1 L pk len k (mpl L pk len k (0, us, mr) t)).2.2 w = -1)
    generalize plf L wp cu k (0, rq, fi) t = p at ih ⊢
    generalize mpl L pk len k (0, us, mr) t = m at ih ⊢
    obtain ⟨pc, pr, pf⟩ := p
    obtain ⟨mc, mu, mm⟩ := m
    dsimp only at ih
    obtain ⟨a1, a2, a3, a4, a5, a6⟩ := ih
    subst a1
    unfold plf1 mpl1
    dsimp only
    rw [lgl_mlg a3 (fun i hi => ⟨(hp i hi).1, (hp i hi).2.1, by have := (hp i hi).2.2.1; omega⟩)]
    cases hc : lgl pr wp cu k with
    | none => exact ⟨rfl, by dsimp only [Option.map_none]; omega, a3, a4, a5, a6⟩
    | some q =>
      have hq := lgl_lt hc
      obtain ⟨b1, b2, b3, b4⟩ := hp q hq
      simp only [Option.map_some]
      rw [b1, ← b2]
      have hww : ∀ r, r < pc → rmr L pf cu q r = !(decide (L < mu r + cu q)) := fun r hr => by unfold rmr; rw [a4 r hr]
      cases hw : wfind (fun r => !(decide (L < mu r + cu q))) pc with
      | some r =>
        obtain ⟨c1, c2, c3⟩ := wfind_some hw
        have : wfind (rmr L pf cu q) 24 = some r := wfind_at (wfind_none.mpr (fun i hi => by rw [hww i (by omega)]; exact c3 i hi)) (by rw [hww r c1]; exact c2) (by omega)
        rw [this]
        dsimp only [Option.getD]
        have hmx : Nat.max pc (r + 1) = pc := Nat.max_eq_left (by omega)
        refine ⟨hmx, by omega, fun w hw => ?_, fun r' hr' => ?_, fun r' h1 h2 => ?_, fun w h1 h2 => ?_⟩
        · unfold upd; split
          · rfl
          · exact a3 w hw
        · unfold vp_updL; split
          · rw [a4 r c1]
          · exact a4 r' hr'
        · rw [updL_ne _ _ (by omega)]; exact a5 r' h1 h2
        · rw [upd_ne _ _ (by omega)]; exact a6 w h1 h2
      | none =>
        have hz : pf pc = 0 := a5 pc (Nat.le_refl _) (by omega)
        have : wfind (rmr L pf cu q) 24 = some pc := wfind_at (wfind_none.mpr (fun i hi => by rw [hww i hi]; exact wfind_none.mp hw i hi)) (rmr_iff.mpr (by rw [hz, Int64.zero_add, b2]; exact b4)) (by omega)
        rw [this]
        dsimp only [Option.getD]
        have hmx : Nat.max pc (pc + 1) = pc + 1 := Nat.max_eq_right (by omega)
        refine ⟨hmx, by omega, fun w hw => ?_, fun r' hr' => ?_, fun r' h1 h2 => ?_, fun w h1 h2 => ?_⟩
        · unfold upd; split
          · rfl
          · exact a3 w hw
        · by_cases e : r' = pc
          · subst e; rw [updL_at, updL_at, updL_at, hz]
          · rw [updL_ne _ _ e, updL_ne _ _ e, updL_ne _ _ e]; exact a4 r' (by omega)
        · rw [updL_ne _ _ (by omega)]; exact a5 r' (by omega) h2
        · rw [upd_ne _ _ (by omega)]; exact a6 w h1 h2
/-- reels of both -/
def RR (wn : Nat) (rq mr : Nat → Int32) : Prop := (∀ w, w < 24 → rq w = mr w) ∧ ∀ w, wn ≤ w → w < 24 → mr w = -1
