/-! the ways of the class and of the reference -/
theorem ix16 {i j k l : Nat} (hj : j < 16) (hl : l < 16) : 16 * i + j = 16 * k + l ↔ i = k ∧ j = l := by omega
theorem ix16' {i j k l : Nat} (hj : j < 16) (hl : l < 16) : i * 16 + j = k * 16 + l ↔ i = k ∧ j = l := by omega
theorem sw_at (wy : Nat → Int64) {a b i j : Nat} (w : Int64) (ha : a < 16) (hb : b < 16) (hj : j < 16) : sw wy a b w (i * 16 + j) = if (i = a ∧ j = b) ∨ (i = b ∧ j = a) then w else wy (i * 16 + j) := by
  unfold sw vp_updL
  simp only [ix16' hj ha, ix16' hj hb]
  by_cases h1 : i = b ∧ j = a
  · rw [if_pos h1, if_pos (Or.inr h1)]
  · rw [if_neg h1]
    by_cases h2 : i = a ∧ j = b
    · rw [if_pos h2, if_pos (Or.inl h2)]
    · rw [if_neg h2, if_neg (by intro q; rcases q with q | q; exact h2 q; exact h1 q)]
theorem msw_at (fa : Nat → Int64) {a b i j : Nat} (w : Int64) (ha : a < 16) (hb : b < 16) (hj : j < 16) : msw fa a b w (16 * i + j) = if (i = a ∧ j = b) ∨ (i = b ∧ j = a) then w else fa (16 * i + j) := by
  unfold msw vp_updL
  simp only [ix16 hj ha, ix16 hj hb]
  by_cases h1 : i = b ∧ j = a
  · rw [if_pos h1, if_pos (Or.inr h1)]
  · rw [if_neg h1]
    by_cases h2 : i = a ∧ j = b
    · rw [if_pos h2, if_pos (Or.inl h2)]
    · rw [if_neg h2, if_neg (by intro q; rcases q with q | q; exact h2 q; exact h1 q)]
theorem swl_at (wy : Nat → Int64) {n i j : Nat} (hn : n < 16) (hj : j < 16) : ∀ k, k ≤ n → swl wy n k (i * 16 + j) = if (i = n ∧ j < k) ∨ (j = n ∧ i < k) then -1 else wy (i * 16 + j)
  | 0, _ => by rw [if_neg (by omega)]; rfl
  | k + 1, hk => by
    show sw (swl wy n k) n k (-1) (i * 16 + j) = _
    rw [sw_at _ _ hn (by omega) hj, swl_at wy hn hj k (by omega)]
    by_cases h1 : (i = n ∧ j = k) ∨ (i = k ∧ j = n)
    · rw [if_pos h1, if_pos (by omega)]
    · rw [if_neg h1]
      by_cases h2 : (i = n ∧ j < k) ∨ (j = n ∧ i < k)
      · rw [if_pos h2, if_pos (by omega)]
      · rw [if_neg h2, if_neg (by omega)]
/-- how many have p, below n -/
noncomputable def cnP (p : Nat → Prop) : Nat → Nat
  | 0 => 0
  | n + 1 => @ite Nat (p n) (Classical.propDecidable (p n)) (cnP p n + 1) (cnP p n)
theorem cnP_le {p q : Nat → Prop} : ∀ {n : Nat}, (∀ i, i < n → p i → q i) → cnP p n ≤ cnP q n
  | 0, _ => Nat.le_refl 0
  | n + 1, h => by
    have ih := cnP_le (p := p) (q := q) (n := n) (fun i hi => h i (by omega))
    unfold cnP
    by_cases hp : p n
    · rw [if_pos hp, if_pos (h n (by omega) hp)]; omega
    · rw [if_neg hp]; split <;> omega
theorem cnP_lt {p q : Nat → Prop} : ∀ {n k : Nat}, k < n → q k → ¬ p k → (∀ i, i < n → p i → q i) → cnP p n + 1 ≤ cnP q n
  | 0, k, h, _, _, _ => absurd h (Nat.not_lt_zero k)
  | n + 1, k, hk, hq, hp, h => by
    unfold cnP
    by_cases e : k = n
    · subst e
      rw [if_neg hp, if_pos hq]
      have := cnP_le (p := p) (q := q) (n := k) (fun i hi => h i (by omega))
      omega
    · have ih := cnP_lt (n := n) (k := k) (by omega) hq hp (fun i hi => h i (by omega))
      by_cases hpn : p n
      · rw [if_pos hpn, if_pos (h n (by omega) hpn)]; omega
      · rw [if_neg hpn]; split <;> omega
theorem cnP_pos {p : Nat → Prop} : ∀ {n i : Nat}, i < n → p i → 1 ≤ cnP p n
  | 0, i, h, _ => absurd h (Nat.not_lt_zero i)
  | n + 1, i, hi, h => by
    unfold cnP
    by_cases e : i = n
    · subst e; rw [if_pos h]; omega
    · have := cnP_pos (n := n) (by omega) h
      split <;> omega
theorem cnP_two {p : Nat → Prop} : ∀ {n i j : Nat}, i < j → j < n → p i → p j → 2 ≤ cnP p n
  | 0, i, j, _, h, _, _ => absurd h (Nat.not_lt_zero j)
  | n + 1, i, j, hij, hj, h1, h2 => by
    unfold cnP
    by_cases e : j = n
    · subst e; rw [if_pos h2]
      have := cnP_pos (n := j) hij h1
      omega
    · have := cnP_two (n := n) hij (by omega) h1 h2
      split <;> omega
theorem cnP_n (p : Nat → Prop) : ∀ n, cnP p n ≤ n
  | 0 => Nat.le_refl 0
  | n + 1 => by have := cnP_n p n; unfold cnP; split <;> omega
/-- the first of its tree -/
def ldr (fa : Nat → Int64) (i : Nat) : Prop := ∀ j, j < i → fa (16 * i + j) = -1
/-- what the reference's ways keep -/
def FA (nd bd : Nat) (fa : Nat → Int64) : Prop :=
  (∀ i, i < 16 → fa (16 * i + i) = 0) ∧
  (∀ i j, i < 16 → j < 16 → fa (16 * i + j) = fa (16 * j + i)) ∧
  (∀ i j, i < 16 → j < 16 → i ≠ j → nd ≤ i → fa (16 * i + j) = -1) ∧
  (∀ i j, i < 16 → j < 16 → fa (16 * i + j) = -1 ∨ ∃ v, v + 100000 ≤ 100000 * 2 ^ bd ∧ fa (16 * i + j) = lN v) ∧
  (∀ i j k, i < 16 → j < 16 → k < 16 → fa (16 * i + j) ≠ -1 → fa (16 * j + k) ≠ -1 → fa (16 * i + k) ≠ -1) ∧
  bd + cnP (ldr fa) nd ≤ nd
theorem lN_m1 {v : Nat} (h : v < 2 ^ 62) : ¬ lN v = -1 := by
  intro q
  have h1 : (lN v).toInt = v := by unfold lN; rw [Int64.toInt_ofNat_of_lt (by omega)]
  rw [q] at h1
  have : (-1 : Int64).toInt = -1 := by decide
  rw [this] at h1
  omega
theorem lN_neg {v : Nat} (h : v < 2 ^ 62) : ¬ lN v < 0 := by
  intro q
  have h1 : (lN v).toInt = v := by unfold lN; rw [Int64.toInt_ofNat_of_lt (by omega)]
  have h2 := Int64.lt_iff_toInt_lt.mp q
  rw [h1] at h2
  have : (0 : Int64).toInt = 0 := by decide
  rw [this] at h2
  omega
theorem FA_neg {nd bd : Nat} {fa : Nat → Int64} (h : FA nd bd fa) (hb : bd ≤ 15) {i j : Nat} (hi : i < 16) (hj : j < 16) : fa (16 * i + j) < 0 ↔ fa (16 * i + j) = -1 := by
  rcases h.2.2.2.1 i j hi hj with e | ⟨v, hv, e⟩
  · rw [e]; exact ⟨fun _ => rfl, fun _ => by decide⟩
  · have hp : (2 : Nat) ^ bd ≤ 2 ^ 15 := Nat.pow_le_pow_right (by omega) hb
    rw [e]
    exact ⟨fun q => absurd q (lN_neg (by omega)), fun q => absurd q (lN_m1 (by omega))⟩
/-- each node has a first of its tree -/
theorem FA_top {nd bd : Nat} {fa : Nat → Int64} (h : FA nd bd fa) : ∀ {i : Nat}, i < nd → nd ≤ 16 → ∃ k, k ≤ i ∧ ldr fa k ∧ fa (16 * i + k) ≠ -1 := by
  intro i
  induction i using Nat.strongRecOn with
  | ind i ih =>
    intro hi hn
    rcases Classical.em (ldr fa i) with q | q
    · exact ⟨i, Nat.le_refl i, q, by rw [h.1 i (by omega)]; decide⟩
    · have : ∃ j, j < i ∧ fa (16 * i + j) ≠ -1 := Classical.byContradiction (fun z => q (fun j hj => Classical.byContradiction (fun y => z ⟨j, hj, y⟩)))
      obtain ⟨j, hj, hc⟩ := this
      obtain ⟨k, hk, h1, h2⟩ := ih j hj (by omega) hn
      exact ⟨k, by omega, h1, h.2.2.2.2.1 i j k (by omega) (by omega) (by omega) hc h2⟩
theorem FA_15 {nd bd : Nat} {fa : Nat → Int64} (h : FA nd bd fa) (hn : nd ≤ 16) {i j : Nat} (hi : i < nd) (hj : j < nd) (he : fa (16 * i + j) = -1) : bd < 15 := by
  obtain ⟨k, hk, h1, h2⟩ := FA_top h hi hn
  obtain ⟨l, hl, h3, h4⟩ := FA_top h hj hn
  have hne : k ≠ l := by
    intro e; subst e
    rw [h.2.1 j k (by omega) (by omega)] at h4
    exact h.2.2.2.2.1 i k j (by omega) (by omega) (by omega) h2 h4 he
  have h5 : 2 ≤ cnP (ldr fa) nd := by
    rcases Nat.lt_or_gt_of_ne hne with q | q
    · exact cnP_two q (by omega) h1 h3
    · exact cnP_two q (by omega) h3 h1
  have := h.2.2.2.2.2
  omega
theorem FA_bd {nd bd : Nat} {fa : Nat → Int64} (h : FA nd bd fa) (hn : nd ≤ 16) : bd ≤ 15 := by
  have h1 := h.2.2.2.2.2
  rcases Nat.eq_zero_or_pos nd with q | q
  · omega
  · have : 1 ≤ cnP (ldr fa) nd := cnP_pos (i := 0) q (fun j hj => absurd hj (Nat.not_lt_zero j))
    omega
/-- a new node -/
theorem FA_node {nd bd : Nat} {fa : Nat → Int64} (h : FA nd bd fa) (hn : nd < 16) : FA (nd + 1) bd fa := by
  refine ⟨h.1, h.2.1, fun i j hi hj hij hd => h.2.2.1 i j hi hj hij (by omega), h.2.2.2.1, h.2.2.2.2.1, ?_⟩
  have h1 := h.2.2.2.2.2
  unfold cnP
  split <;> omega
/-- the ways of the class are the reference's -/
def WF (nd : Nat) (wy fa : Nat → Int64) : Prop := ∀ i j, i < nd → j < nd → wy (i * 16 + j) = fa (16 * i + j)
theorem WF_node {nd bd : Nat} {wy fa : Nat → Int64} (h : WF nd wy fa) (hf : FA nd bd fa) (hn : nd < 16) : WF (nd + 1) (sw (swl wy nd nd) nd nd 0) fa := by
  intro i j hi hj
  rw [sw_at _ _ hn hn (by omega), swl_at wy hn (by omega) nd (Nat.le_refl nd)]
  by_cases h1 : (i = nd ∧ j = nd) ∨ (i = nd ∧ j = nd)
  · rw [if_pos h1]
    have e : i = nd ∧ j = nd := by omega
    rw [e.1, e.2, hf.1 nd hn]
  · rw [if_neg h1]
    by_cases h2 : (i = nd ∧ j < nd) ∨ (j = nd ∧ i < nd)
    · rw [if_pos h2]
      rcases h2 with h2 | h2
      · rw [hf.2.2.1 i j (by omega) (by omega) (by omega) (by omega)]
      · rw [hf.2.1 i j (by omega) (by omega), hf.2.2.1 j i (by omega) (by omega) (by omega) (by omega)]
    · rw [if_neg h2]; exact h i j (by omega) (by omega)
theorem tb_bt {wy : Nat → Int64} {a : Nat} : ∀ {n i : Nat}, n ≤ 16 → i < 32 → bt (tb wy a n) i = (decide (i < n) && !(decide (wy (a * 16 + i) = -1)))
  | 0, i, _, _ => by simp only [tb]; rw [show nI 0 = 0 from rfl, b_0]; simp
  | n + 1, i, hn, hi => by
    have ih := tb_bt (wy := wy) (a := a) (n := n) (i := i) (by omega) hi
    unfold tb
    by_cases h : wy (a * 16 + n) = -1
    · rw [if_pos h, ih]
      by_cases e : i = n
      · subst e; simp [h]
      · have : decide (i < n) = decide (i < n + 1) := by simp only [decide_eq_decide]; omega
        rw [this]
    · rw [if_neg h, b_or, ih, b_one n (by omega) hi]
      by_cases e : i = n
      · subst e; simp [h]
      · have : decide (i < n) = decide (i < n + 1) := by simp only [decide_eq_decide]; omega
        simp [e, this]
theorem mtb_bt {fa : Nat → Int64} {a : Nat} : ∀ {n i : Nat}, n ≤ 16 → i < 32 → bt (mtb fa a n) i = (decide (i < n) && !(decide (fa (16 * i + a) < 0)))
  | 0, i, _, _ => by simp only [mtb]; rw [show nI 0 = 0 from rfl, b_0]; simp
  | n + 1, i, hn, hi => by
    have ih := mtb_bt (fa := fa) (a := a) (n := n) (i := i) (by omega) hi
    unfold mtb
    by_cases h : fa (16 * n + a) < 0
    · rw [if_pos h, ih]
      by_cases e : i = n
      · subst e; simp [h]
      · have : decide (i < n) = decide (i < n + 1) := by simp only [decide_eq_decide]; omega
        rw [this]
    · rw [if_neg h, b_or, ih, b_one n (by omega) hi]
      by_cases e : i = n
      · subst e; simp [h]
      · have : decide (i < n) = decide (i < n + 1) := by simp only [decide_eq_decide]; omega
        simp [e, this]
theorem tb_mtb {nd bd : Nat} {wy fa : Nat → Int64} (h : WF nd wy fa) (hf : FA nd bd fa) (hn : nd ≤ 16) (hb : bd ≤ 15) {a : Nat} (ha : a < nd) : tb wy a nd = mtb fa a nd := by
  refine b_ext (fun i hi => ?_)
  rw [tb_bt hn hi, mtb_bt hn hi]
  by_cases q : i < nd
  · rw [h a i ha q, hf.2.1 a i (by omega) (by omega)]
    have := FA_neg hf hb (i := i) (j := a) (by omega) (by omega)
    simp only [this]
  · simp [q]
theorem jrow_mrow {A B : Int32} {a b : Nat} {len : Int64} {n i : Nat} (hn : n ≤ 16) (ha : a < n) (hb : b < n) (hi : i < n) : ∀ {m : Nat} {wy fa : Nat → Int64}, m ≤ n → WF n wy fa → WF n (jrow A B a b len i wy m) (mrow A B a b len i fa m)
  | 0, wy, fa, _, h => h
  | m + 1, wy, fa, hm, h => by
    have ih := jrow_mrow (A := A) (B := B) (len := len) hn ha hb hi (m := m) (by omega) h
    intro x y hx hy
    simp only [jrow, mrow]
    by_cases c : bt A i = true ∧ bt B m = true
    · rw [if_pos c, if_pos c, sw_at _ _ (by omega) (by omega) (by omega), msw_at _ _ (by omega) (by omega) (by omega), ih i a hi ha, ih b m hb (by omega), ih x y hx hy]
    · rw [if_neg c, if_neg c]; exact ih x y hx hy
theorem jall_mall {A B : Int32} {a b : Nat} {len : Int64} {n : Nat} (hn : n ≤ 16) (ha : a < n) (hb : b < n) {wy fa : Nat → Int64} (h : WF n wy fa) : ∀ {m : Nat}, m ≤ n → WF n (jall A B a b len n wy m) (mall A B a b len n fa m)
  | 0, _ => h
  | m + 1, hm => jrow_mrow hn ha hb (by omega) (Nat.le_refl n) (jall_mall hn ha hb h (by omega))
/-- what joining two trees leaves -/
def jn (A B : Int32) (a b : Nat) (len : Int64) (fa : Nat → Int64) (x y : Nat) : Int64 :=
  if bt A x = true ∧ bt B y = true then fa (16 * x + a) + len + fa (16 * b + y) else if bt A y = true ∧ bt B x = true then fa (16 * y + a) + len + fa (16 * b + x) else fa (16 * x + y)
theorem mrow_at {A B : Int32} {a b : Nat} {len : Int64} {i : Nat} (hAB : ∀ x, x < 16 → ¬ (bt A x = true ∧ bt B x = true)) (ha : a < 16) (hb : b < 16) (hi : i < 16) (hA : bt A a = true) (hB : bt B b = true) {fa g : Nat → Int64} (hg1 : ∀ x, x < 16 → bt A x = true → g (16 * x + a) = fa (16 * x + a)) (hg2 : ∀ y, y < 16 → bt B y = true → g (16 * b + y) = fa (16 * b + y)) : ∀ {m : Nat}, m ≤ 16 → ∀ x y, x < 16 → y < 16 → mrow A B a b len i g m (16 * x + y) = if (x = i ∧ y < m ∧ bt A x = true ∧ bt B y = true) ∨ (y = i ∧ x < m ∧ bt A y = true ∧ bt B x = true) then jn A B a b len fa x y else g (16 * x + y)
  | 0, _, x, y, hx, hy => by rw [if_neg (by omega)]; rfl
  | m + 1, hm, x, y, hx, hy => by
    have ih := mrow_at (len := len) hAB ha hb hi hA hB hg1 hg2 (m := m) (by omega)
    simp only [mrow]
    by_cases c : bt A i = true ∧ bt B m = true
    · rw [if_pos c, msw_at _ _ (by omega) (by omega) (by omega), ih x y hx hy]
      have e1 : mrow A B a b len i g m (16 * i + a) = fa (16 * i + a) := by
        rw [ih i a hi ha, if_neg, hg1 i hi c.1]
        intro q
        rcases q with q | q
        · exact hAB a ha ⟨hA, q.2.2.2⟩
        · exact hAB i hi ⟨c.1, q.2.2.2⟩
      have e2 : mrow A B a b len i g m (16 * b + m) = fa (16 * b + m) := by
        rw [ih b m hb (by omega), if_neg, hg2 m (by omega) c.2]
        intro q
        rcases q with q | q
        · exact hAB b hb ⟨q.2.2.1, hB⟩
        · exact hAB m (by omega) ⟨q.2.2.1, c.2⟩
      rw [e1, e2]
      by_cases h1 : (x = i ∧ y = m) ∨ (x = m ∧ y = i)
      · rw [if_pos h1]
        rcases h1 with h1 | h1
        · rw [h1.1, h1.2, if_pos (Or.inl ⟨rfl, by omega, c.1, c.2⟩)]
          unfold jn; rw [if_pos c]
        · rw [h1.1, h1.2, if_pos (Or.inr ⟨rfl, by omega, c.1, c.2⟩)]
          unfold jn
          rw [if_neg (fun q => hAB i hi ⟨c.1, q.2⟩), if_pos c]
      · rw [if_neg h1]
        have e : ((x = i ∧ y < m ∧ bt A x = true ∧ bt B y = true) ∨ (y = i ∧ x < m ∧ bt A y = true ∧ bt B x = true)) ↔ ((x = i ∧ y < m + 1 ∧ bt A x = true ∧ bt B y = true) ∨ (y = i ∧ x < m + 1 ∧ bt A y = true ∧ bt B x = true)) := by
          constructor
          · rintro (q | q)
            · exact Or.inl ⟨q.1, by omega, q.2.2⟩
            · exact Or.inr ⟨q.1, by omega, q.2.2⟩
          · rintro (q | q)
            · exact Or.inl ⟨q.1, by omega, q.2.2⟩
            · exact Or.inr ⟨q.1, by omega, q.2.2⟩
        simp only [e]
    · rw [if_neg c, ih x y hx hy]
      have e : ((x = i ∧ y < m ∧ bt A x = true ∧ bt B y = true) ∨ (y = i ∧ x < m ∧ bt A y = true ∧ bt B x = true)) ↔ ((x = i ∧ y < m + 1 ∧ bt A x = true ∧ bt B y = true) ∨ (y = i ∧ x < m + 1 ∧ bt A y = true ∧ bt B x = true)) := by
        constructor
        · rintro (q | q)
          · exact Or.inl ⟨q.1, by omega, q.2.2⟩
          · exact Or.inr ⟨q.1, by omega, q.2.2⟩
        · rintro (q | q)
          · rcases Nat.lt_or_ge y m with z | z
            · exact Or.inl ⟨q.1, z, q.2.2⟩
            · have : y = m := by omega
              subst this; exact absurd ⟨q.1 ▸ q.2.2.1, q.2.2.2⟩ c
          · rcases Nat.lt_or_ge x m with z | z
            · exact Or.inr ⟨q.1, z, q.2.2⟩
            · have : x = m := by omega
              subst this; exact absurd ⟨q.1 ▸ q.2.2.1, q.2.2.2⟩ c
      simp only [e]
theorem mall_at {A B : Int32} {a b : Nat} {len : Int64} {n : Nat} (hn : n ≤ 16) (hAB : ∀ x, x < 16 → ¬ (bt A x = true ∧ bt B x = true)) (hAn : ∀ x, bt A x = true → x < n) (hBn : ∀ x, bt B x = true → x < n) (ha : a < 16) (hb : b < 16) (hA : bt A a = true) (hB : bt B b = true) {fa : Nat → Int64} : ∀ {m : Nat}, m ≤ n → ∀ x y, x < 16 → y < 16 → mall A B a b len n fa m (16 * x + y) = if (x < m ∧ bt A x = true ∧ bt B y = true) ∨ (y < m ∧ bt A y = true ∧ bt B x = true) then jn A B a b len fa x y else fa (16 * x + y)
  | 0, _, x, y, hx, hy => by rw [if_neg (by omega)]; rfl
  | m + 1, hm, x, y, hx, hy => by
    have ih := mall_at (len := len) hn hAB hAn hBn ha hb hA hB (fa := fa) (m := m) (by omega)
    show mrow A B a b len m (mall A B a b len n fa m) n (16 * x + y) = _
    have g1 : ∀ x, x < 16 → bt A x = true → mall A B a b len n fa m (16 * x + a) = fa (16 * x + a) := by
      intro x hx h
      rw [ih x a hx ha, if_neg]
      rintro (q | q)
      · exact hAB a ha ⟨hA, q.2.2⟩
      · exact hAB x hx ⟨h, q.2.2⟩
    have g2 : ∀ y, y < 16 → bt B y = true → mall A B a b len n fa m (16 * b + y) = fa (16 * b + y) := by
      intro y hy h
      rw [ih b y hb hy, if_neg]
      rintro (q | q)
      · exact hAB b hb ⟨q.2.1, hB⟩
      · exact hAB y hy ⟨q.2.1, h⟩
    rw [mrow_at hAB ha hb (by omega) hA hB g1 g2 hn x y hx hy, ih x y hx hy]
    by_cases h1 : (x = m ∧ y < n ∧ bt A x = true ∧ bt B y = true) ∨ (y = m ∧ x < n ∧ bt A y = true ∧ bt B x = true)
    · rw [if_pos h1, if_pos]
      rcases h1 with q | q
      · exact Or.inl ⟨by omega, q.2.2⟩
      · exact Or.inr ⟨by omega, q.2.2⟩
    · rw [if_neg h1]
      have e : ((x < m ∧ bt A x = true ∧ bt B y = true) ∨ (y < m ∧ bt A y = true ∧ bt B x = true)) ↔ ((x < m + 1 ∧ bt A x = true ∧ bt B y = true) ∨ (y < m + 1 ∧ bt A y = true ∧ bt B x = true)) := by
        constructor
        · rintro (q | q)
          · exact Or.inl ⟨by omega, q.2⟩
          · exact Or.inr ⟨by omega, q.2⟩
        · rintro (q | q)
          · rcases Nat.lt_or_ge x m with z | z
            · exact Or.inl ⟨z, q.2⟩
            · exact absurd (Or.inl ⟨by omega, hBn y q.2.2, q.2⟩) h1
          · rcases Nat.lt_or_ge y m with z | z
            · exact Or.inr ⟨z, q.2⟩
            · exact absurd (Or.inr ⟨by omega, hBn x q.2.2, q.2⟩) h1
      simp only [e]
