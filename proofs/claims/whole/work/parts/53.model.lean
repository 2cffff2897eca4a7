theorem ffs_congr {α : Type} {g h : Nat → Option α} : ∀ {f r : Nat}, (∀ j, r ≤ j → j < r + f → g j = h j) → ffs g f r = ffs h f r
  | 0, _, _ => rfl
  | f + 1, r, e => by
    have h1 := ffs_congr (g := g) (h := h) (f := f) (r := r + 1) (fun j h1 h2 => e j (by omega) (by omega))
    simp only [ffs, e r (Nat.le_refl r) (by omega), h1]
theorem ffs_no {α : Type} {g : Nat → Option α} : ∀ {f r : Nat}, ffs g f r = none → ∀ j, r ≤ j → j < r + f → g j = none
  | 0, r, _, j, h1, h2 => absurd h2 (by omega)
  | f + 1, r, h, j, h1, h2 => by
    unfold ffs at h
    cases hc : g r with
    | some a => rw [hc] at h; cases h
    | none =>
      rw [hc] at h
      rcases Nat.lt_or_ge r j with q | q
      · exact ffs_no h j (by omega) (by omega)
      · rw [show j = r by omega]; exact hc
theorem tpo_congr {tn tm : Nat → Nat} : ∀ {k : Nat}, (∀ i, i < k → tn i = tm i) → tpo tn k = tpo tm k
  | 0, _ => rfl
  | k + 1, h => by simp only [tpo, tpo_congr (k := k) (fun i hi => h i (by omega)), h k (by omega)]
theorem updN_at (f : Nat → Nat) (i x : Nat) : updN f i x i = x := by simp [updN]
theorem updN_ne (f : Nat → Nat) {i j : Nat} (x : Nat) (h : ¬ j = i) : updN f i x j = f j := by simp [updN, h]
theorem updL_at (f : Nat → Int64) (i : Nat) (x : Int64) : vp_updL f i x i = x := by simp [vp_updL]
theorem updL_ne (f : Nat → Int64) {i j : Nat} (x : Int64) (h : ¬ j = i) : vp_updL f i x j = f j := by simp [vp_updL, h]
theorem tpo_updN (tn : Nat → Nat) (k r : Nat) (h : r ≤ tpo tn k) : tpo (updN tn k r) (k + 1) = if r = tpo tn k then r + 1 else tpo tn k := by
  have e : tpo (updN tn k r) k = tpo tn k := tpo_congr (fun i hi => updN_ne _ _ (by omega))
  simp only [tpo, e, updN_at]
  split <;> split <;> omega
theorem ff_congr (n : Nat) (lim : Int64) (len : Nat → Int64) : ∀ (d k : Nat) (b c : Nat → Int64) (tn : Nat → Nat), k + d ≤ 24 → (∀ i, i < k → tn i ≤ i) → (∀ j, j < 24 → b j = c j) → ff n lim len d k b tn = ff n lim len d k c tn
  | 0, _, _, _, _, _, _, _ => rfl
  | d + 1, k, b, c, tn, hk, ht, hb => by
    have htp : tpo tn k ≤ k := tpo_le tn k k (fun i hi => by have := ht i hi; omega)
    rw [ff_succ, ff_succ]
    refine ffs_congr (fun r h1 h2 => ?_)
    unfold ffg
    rw [hb r (by omega)]
    by_cases h : r < n ∧ c r + len k ≤ lim
    · rw [if_pos h, if_pos h]
      refine ff_congr n lim len d (k + 1) _ _ _ (by omega) (fun i hi => ?_) (fun j hj => ?_)
      · by_cases e : i = k
        · subst e; rw [updN_at]; omega
        · rw [updN_ne _ _ e]; exact ht i (by omega)
      · by_cases e : j = r
        · subst e; rw [updL_at, updL_at]
        · rw [updL_ne _ _ e, updL_ne _ _ e]; exact hb j hj
    · rw [if_neg h, if_neg h]
/-- each piece on a reel of its own: a way there is -/
theorem ff_some (n : Nat) (lim : Int64) (len : Nat → Int64) : ∀ (d k : Nat) (b : Nat → Int64) (tn : Nat → Nat), k + d ≤ n → k + d ≤ 24 → (∀ i, i < k → tn i ≤ i) → (∀ j, tpo tn k ≤ j → j < 24 → b j = 0) → (∀ j, j < k + d → len j ≤ lim) → ¬ ff n lim len d k b tn = none
  | 0, _, _, _, _, _, _, _, _, h => by cases h
  | d + 1, k, b, tn, hn, hk, ht, hb, hl, h => by
    have htp : tpo tn k ≤ k := tpo_le tn k k (fun i hi => by have := ht i hi; omega)
    rw [ff_succ] at h
    have h1 := ffs_no h (tpo tn k) (by omega) (by omega)
    unfold ffg at h1
    have hz := hb (tpo tn k) (Nat.le_refl _) (by omega)
    rw [hz, Int64.zero_add, if_pos ⟨by omega, hl k (by omega)⟩] at h1
    have et : tpo (updN tn k (tpo tn k)) (k + 1) = tpo tn k + 1 := by rw [tpo_updN _ _ _ (Nat.le_refl _), if_pos rfl]
    refine ff_some n lim len d (k + 1) _ _ (by omega) (by omega) (fun i hi => ?_) (fun j hj h24 => ?_) (fun j hj => hl j (by omega)) h1
    · by_cases e : i = k
      · subst e; rw [updN_at]; exact htp
      · rw [updN_ne _ _ e]; exact ht i (by omega)
    · rw [et] at hj
      rw [updL_ne _ _ (by omega)]; exact hb j (by omega) h24
theorem fllL_at (f : Nat → Int64) (v : Int64) : ∀ n j, j < n → fllL f v n j = v
  | 0, j, h => absurd h (Nat.not_lt_zero j)
  | n + 1, j, h => by
    by_cases e : j = n
    · subst e; exact updL_at _ _ _
    · show vp_updL _ _ _ j = v
      rw [updL_ne _ _ e]; exact fllL_at f v n j (by omega)
theorem fll_at (f : Nat → Int32) (v : Int32) : ∀ n j, j < n → fll f v n j = v
  | 0, j, h => absurd h (Nat.not_lt_zero j)
  | n + 1, j, h => by
    by_cases e : j = n
    · subst e; exact upd_at _ _ _
    · show upd _ _ _ j = v
      rw [upd_ne _ _ e]; exact fll_at f v n j (by omega)
theorem least_of {P : Nat → Prop} : ∀ {M : Nat}, P M → ∃ N, N ≤ M ∧ P N ∧ ∀ n, n < N → ¬ P n := by
  intro M
  induction M using Nat.strongRecOn with
  | ind M ih =>
    intro h
    rcases Classical.em (∃ m, m < M ∧ P m) with ⟨m, hm, hp⟩ | q
    · obtain ⟨N, h1, h2, h3⟩ := ih m hm hp
      exact ⟨N, by omega, h2, h3⟩
    · exact ⟨M, Nat.le_refl M, h, fun n hn hp => q ⟨n, hn, hp⟩⟩
abbrev ffz (n : Nat) (lim : Int64) (len : Nat → Int64) (my : Nat) : Option (Nat → Nat) := ff n lim len my 0 (fun _ => 0) (fun _ => 0)
theorem ffz_us (n : Nat) (lim : Int64) (len : Nat → Int64) (my : Nat) (h : my ≤ 24) (us : Nat → Int64) : ff n lim len my 0 (fllL us 0 24) (fun _ => 0) = ffz n lim len my :=
  ff_congr n lim len my 0 _ _ _ (by omega) (fun i hi => absurd hi (by omega)) (fun j hj => fllL_at us 0 24 j hj)
theorem ffz_least (lim : Int64) (len : Nat → Int64) (my : Nat) (h0 : 0 < my) (h : my ≤ 24) (hl : ∀ j, j < my → len j ≤ lim) : ∃ N a, 0 < N ∧ N ≤ my ∧ ffz N lim len my = some a ∧ ∀ n, 0 < n → n < N → ffz n lim len my = none := by
  obtain ⟨N, h1, ⟨h2, h3⟩, h4⟩ := least_of (P := fun n => 0 < n ∧ ¬ ffz n lim len my = none) (M := my) ⟨h0, ff_some my lim len my 0 _ _ (by omega) (by omega) (fun i hi => absurd hi (by omega)) (fun _ _ _ => rfl) (fun j hj => hl j (by omega))⟩
  cases e : ffz N lim len my with
  | none => exact absurd e h3
  | some a => exact ⟨N, a, h2, h1, e, fun n hn hN => Classical.byContradiction (fun q => h4 n hN ⟨hn, q⟩)⟩
theorem mcoll_lt (len : Nat → Int64) (pk : Nat → Nat) : ∀ w k, k < (mcoll len pk w).1 → (mcoll len pk w).2 k < w
  | 0, k, h => absurd h (Nat.not_lt_zero k)
  | w + 1, k, h => by
    unfold mcoll at h ⊢
    by_cases c : 0 ≤ len w
    · rw [if_pos c] at h ⊢
      dsimp only at h ⊢
      by_cases e : k = (mcoll len pk w).1
      · subst e; rw [updN_at]; omega
      · rw [updN_ne _ _ e]
        have := mcoll_lt len pk w k (by omega); omega
    · rw [if_neg c] at h ⊢
      have := mcoll_lt len pk w k h; omega
theorem mcoll_mono (len : Nat → Int64) (pk : Nat → Nat) : ∀ w j k, j < k → k < (mcoll len pk w).1 → (mcoll len pk w).2 j < (mcoll len pk w).2 k
  | 0, j, k, h, h2 => absurd h2 (Nat.not_lt_zero k)
  | w + 1, j, k, h, h2 => by
    unfold mcoll at h2 ⊢
    by_cases c : 0 ≤ len w
    · rw [if_pos c] at h2 ⊢
      dsimp only at h2 ⊢
      by_cases e : k = (mcoll len pk w).1
      · subst e
        rw [updN_at, updN_ne _ _ (by omega)]
        exact mcoll_lt len pk w j h
      · rw [updN_ne _ _ e, updN_ne _ _ (by omega)]
        exact mcoll_mono len pk w j k h (by omega)
    · rw [if_neg c] at h2 ⊢
      exact mcoll_mono len pk w j k h h2
theorem mcoll_inj (len : Nat → Int64) (pk : Nat → Nat) (w j k : Nat) (hj : j < (mcoll len pk w).1) (hk : k < (mcoll len pk w).1) (h : (mcoll len pk w).2 j = (mcoll len pk w).2 k) : j = k := by
  rcases Nat.lt_trichotomy j k with q | q | q
  · have := mcoll_mono len pk w j k q hk; omega
  · exact q
  · have := mcoll_mono len pk w k j q hj; omega
/-- how many are left -/
def lfc (mr : Nat → Int32) (pk : Nat → Nat) : Nat → Nat
  | 0 => 0
  | k + 1 => if mr (pk k) = -1 then lfc mr pk k + 1 else lfc mr pk k
theorem lfc_all {mr : Nat → Int32} {pk : Nat → Nat} : ∀ {n}, (∀ k, k < n → mr (pk k) = -1) → lfc mr pk n = n
  | 0, _ => rfl
  | n + 1, h => by simp only [lfc]; rw [if_pos (h n (by omega)), lfc_all (fun k hk => h k (by omega))]
theorem lfc_upd0 {mr : Nat → Int32} {pk : Nat → Nat} {w : Nat} {x : Int32} : ∀ {n}, (∀ k, k < n → ¬ pk k = w) → lfc (upd mr w x) pk n = lfc mr pk n
  | 0, _ => rfl
  | n + 1, h => by simp only [lfc]; rw [upd_ne _ _ (h n (by omega)), lfc_upd0 (fun k hk => h k (by omega))]
theorem lfc_upd {mr : Nat → Int32} {pk : Nat → Nat} {w : Nat} {x : Int32} : ∀ {n}, (∀ j k, j < n → k < n → pk j = pk k → j = k) → lfc mr pk n ≤ lfc (upd mr w x) pk n + 1
  | 0, _ => by simp [lfc]
  | n + 1, h => by
    simp only [lfc]
    by_cases e : pk n = w
    · rw [lfc_upd0 (fun k hk q => by have := h k n (by omega) (by omega) (q.trans e.symm); omega)]
      split <;> split <;> omega
    · rw [upd_ne _ _ e]
      have := lfc_upd (mr := mr) (pk := pk) (w := w) (x := x) (n := n) (fun j k hj hk => h j k (by omega) (by omega))
      split <;> omega
theorem mlg_no {mr : Nat → Int32} {pk : Nat → Nat} {len : Nat → Int64} : ∀ {k : Nat}, mlg mr pk len k = none → lfc mr pk k = 0
  | 0, _ => rfl
  | k + 1, h => by
    unfold mlg at h
    cases hc : mlg mr pk len k with
    | some w => rw [hc] at h; simp only at h; split at h <;> cases h
    | none =>
      rw [hc] at h
      simp only at h
      have h1 := mlg_no hc
      by_cases e : mr (pk k) = -1
      · rw [if_pos e] at h; cases h
      · simp only [lfc, if_neg e]; exact h1
theorem mpl_left {lim : Int64} {pk : Nat → Nat} {len : Nat → Int64} {my : Nat} {us : Nat → Int64} {mr : Nat → Int32} (hp : ∀ j k, j < my → k < my → pk j = pk k → j = k) (h0 : ∀ k, k < my → mr (pk k) = -1) : ∀ t, my ≤ lfc (mpl lim pk len my (0, us, mr) t).2.2 pk my + t
  | 0 => by show my ≤ lfc mr pk my + 0; rw [lfc_all h0]; omega
  | t + 1 => by
    have ih := mpl_left (lim := lim) (len := len) (us := us) hp h0 t
    show my ≤ lfc (mpl1 lim pk len my (mpl lim pk len my (0, us, mr) t)).2.2 pk my + (t + 1)
    generalize mpl lim pk len my (0, us, mr) t = s at ih ⊢
    unfold mpl1
    split
    · omega
    · rename_i w hw
      split
      · rename_i r hr
        have := lfc_upd (mr := s.2.2) (pk := pk) (w := w) (x := nI r) (n := my) hp
        dsimp only; omega
      · have := lfc_upd (mr := s.2.2) (pk := pk) (w := w) (x := nI s.1) (n := my) hp
        dsimp only; omega
theorem mpl_nn {lim : Int64} {pk : Nat → Nat} {len : Nat → Int64} {my : Nat} {us : Nat → Int64} {mr : Nat → Int32} (hp : ∀ j k, j < my → k < my → pk j = pk k → j = k) (h0 : ∀ k, k < my → mr (pk k) = -1) (t : Nat) (ht : t < my) : ¬ mlg (mpl lim pk len my (0, us, mr) t).2.2 pk len my = none := fun q => by
  have h1 := mlg_no q
  have h2 := mpl_left (lim := lim) (len := len) (us := us) hp h0 t
  omega
/-- what the reference's reel leaves -/
def Greel (len : Nat → Int64) (mw : Nat) (lim : Int64) (mr : Nat → Int32) (pk : Nat → Nat) (us : Nat → Int64) (rv : Int32) (mr1 : Nat → Int32) : Prop :=
  ((∃ k, k < (mcoll len pk mw).1 ∧ lim < len ((mcoll len pk mw).2 k)) ∧ rv = -1 ∧ mr1 = fll mr (-1) mw) ∨
  ((∀ k, k < (mcoll len pk mw).1 → len ((mcoll len pk mw).2 k) ≤ lim) ∧
   (((mcoll len pk mw).1 = 0 ∧ rv = nI 0 ∧ mr1 = fll mr (-1) mw) ∨
    (0 < (mcoll len pk mw).1 ∧ (mcoll len pk mw).1 ≤ 8 ∧ ∃ N a, 0 < N ∧ N ≤ (mcoll len pk mw).1 ∧ ffz N lim (fun kk => len ((mcoll len pk mw).2 kk)) (mcoll len pk mw).1 = some a ∧ (∀ n, 0 < n → n < N → ffz n lim (fun kk => len ((mcoll len pk mw).2 kk)) (mcoll len pk mw).1 = none) ∧ rv = nI N ∧ mr1 = kt (fll mr (-1) mw) (mcoll len pk mw).2 a (mcoll len pk mw).1) ∨
    (8 < (mcoll len pk mw).1 ∧ rv = nI (mpl lim (mcoll len pk mw).2 len (mcoll len pk mw).1 (0, us, fll mr (-1) mw) (mcoll len pk mw).1).1 ∧ mr1 = (mpl lim (mcoll len pk mw).2 len (mcoll len pk mw).1 (0, us, fll mr (-1) mw) (mcoll len pk mw).1).2.2)))
