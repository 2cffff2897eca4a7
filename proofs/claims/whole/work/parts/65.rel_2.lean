/-! joining trees -/
theorem lN_add3 (a b c : Nat) : lN a + lN b + lN c = lN (a + b + c) := by rw [lN_add, lN_add]
theorem FA_join {nd bd : Nat} {fa : Nat → Int64} (h : FA nd bd fa) (hn : nd ≤ 16) {a b len : Nat} (ha : a < nd) (hb : b < nd) (hl : len ≤ 100000) (hc : fa (16 * a + b) = -1) : FA nd (bd + 1) (mall (mtb fa a nd) (mtb fa b nd) a b (lN len) nd fa nd) := by
  have h15 := FA_15 h hn ha hb hc
  obtain ⟨hd, hs, ho, hv, ht, hcn⟩ := id h
  have bA : ∀ c x, c < nd → x < 16 → (bt (mtb fa c nd) x = true ↔ fa (16 * x + c) ≠ -1) := by
    intro c x hcn hx
    rw [mtb_bt hn (by omega)]
    by_cases q : x < nd
    · have := FA_neg h (by omega) (i := x) (j := c) (by omega) (by omega)
      simp only [this]
      simp [q]
    · rw [ho x c hx (by omega) (by omega) (by omega)]
      simp [q]
  have bN : ∀ c x, bt (mtb fa c nd) x = true → x < nd := by
    intro c x hx
    rcases Nat.lt_or_ge x 32 with q | q
    · rw [mtb_bt hn q] at hx
      simp only [Bool.and_eq_true, decide_eq_true_eq] at hx
      exact hx.1
    · rw [b_big q] at hx; cases hx
  have hAB : ∀ x, x < 16 → ¬ (bt (mtb fa a nd) x = true ∧ bt (mtb fa b nd) x = true) := by
    intro x hx q
    have q1 := (bA a x ha hx).mp q.1
    have q2 := (bA b x hb hx).mp q.2
    rw [hs x a hx (by omega)] at q1
    exact ht a x b (by omega) hx (by omega) q1 q2 hc
  have hAa : bt (mtb fa a nd) a = true := (bA a a ha (by omega)).mpr (by rw [hd a (by omega)]; decide)
  have hBb : bt (mtb fa b nd) b = true := (bA b b hb (by omega)).mpr (by rw [hd b (by omega)]; decide)
  have hF : ∀ x y, x < 16 → y < 16 → mall (mtb fa a nd) (mtb fa b nd) a b (lN len) nd fa nd (16 * x + y) = jn (mtb fa a nd) (mtb fa b nd) a b (lN len) fa x y := by
    intro x y hx hy
    rw [mall_at hn hAB (bN a) (bN b) (by omega) (by omega) hAa hBb (Nat.le_refl nd) x y hx hy]
    by_cases q : (x < nd ∧ bt (mtb fa a nd) x = true ∧ bt (mtb fa b nd) y = true) ∨ (y < nd ∧ bt (mtb fa a nd) y = true ∧ bt (mtb fa b nd) x = true)
    · rw [if_pos q]
    · rw [if_neg q]
      unfold jn
      rw [if_neg (fun z => q (Or.inl ⟨bN a x z.1, z⟩)), if_neg (fun z => q (Or.inr ⟨bN a y z.1, z⟩))]
  generalize mall (mtb fa a nd) (mtb fa b nd) a b (lN len) nd fa nd = F at hF ⊢
  have hp : (2 : Nat) ^ bd ≤ 2 ^ 15 := Nat.pow_le_pow_right (by omega) (by omega)
  have val : ∀ x y, x < 16 → y < 16 → fa (16 * x + a) ≠ -1 → fa (16 * b + y) ≠ -1 → ∃ v, v + 100000 ≤ 100000 * 2 ^ (bd + 1) ∧ fa (16 * x + a) + lN len + fa (16 * b + y) = lN v := by
    intro x y hx hy h1 h2
    rcases hv x a hx (by omega) with e | ⟨v, hv1, e1⟩
    · exact absurd e h1
    rcases hv b y (by omega) hy with e | ⟨w, hw1, e2⟩
    · exact absurd e h2
    refine ⟨v + len + w, by rw [Nat.pow_succ]; omega, by rw [e1, e2, lN_add3]⟩
  have cF : ∀ x y, x < 16 → y < 16 → (F (16 * x + y) ≠ -1 ↔ (fa (16 * x + y) ≠ -1 ∨ (fa (16 * x + a) ≠ -1 ∧ fa (16 * y + b) ≠ -1) ∨ (fa (16 * y + a) ≠ -1 ∧ fa (16 * x + b) ≠ -1))) := by
    intro x y hx hy
    rw [hF x y hx hy]
    unfold jn
    simp only [bA a _ ha hx, bA a _ ha hy, bA b _ hb hx, bA b _ hb hy]
    by_cases q1 : fa (16 * x + a) ≠ -1 ∧ fa (16 * y + b) ≠ -1
    · rw [if_pos q1]
      obtain ⟨v, hv1, e⟩ := val x y hx hy q1.1 (by rw [hs b y (by omega) hy]; exact q1.2)
      rw [e]
      exact ⟨fun _ => Or.inr (Or.inl q1), fun _ => lN_m1 (by rw [Nat.pow_succ] at hv1; omega)⟩
    · rw [if_neg q1]
      by_cases q2 : fa (16 * y + a) ≠ -1 ∧ fa (16 * x + b) ≠ -1
      · rw [if_pos q2]
        obtain ⟨v, hv1, e⟩ := val y x hy hx q2.1 (by rw [hs b x (by omega) hx]; exact q2.2)
        rw [e]
        exact ⟨fun _ => Or.inr (Or.inr q2), fun _ => lN_m1 (by rw [Nat.pow_succ] at hv1; omega)⟩
      · rw [if_neg q2]
        exact ⟨fun z => Or.inl z, fun z => by rcases z with z | z | z; exact z; exact absurd z q1; exact absurd z q2⟩
  have no2 : ∀ x, x < 16 → fa (16 * x + a) ≠ -1 → fa (16 * x + b) ≠ -1 → False := fun x hx h1 h2 => hAB x hx ⟨(bA a x ha hx).mpr h1, (bA b x hb hx).mpr h2⟩
  have sy : ∀ {x y}, x < 16 → y < 16 → fa (16 * x + y) ≠ -1 → fa (16 * y + x) ≠ -1 := fun {x y} hx hy z => by rw [← hs x y hx hy]; exact z
  refine ⟨?_, ?_, ?_, ?_, ?_, ?_⟩
  · intro x hx
    rw [hF x x hx hx]
    unfold jn
    rw [if_neg (hAB x hx), if_neg (hAB x hx)]
    exact hd x hx
  · intro x y hx hy
    rw [hF x y hx hy, hF y x hy hx]
    unfold jn
    by_cases q1 : bt (mtb fa a nd) x = true ∧ bt (mtb fa b nd) y = true
    · rw [if_pos q1, if_neg (fun z => hAB x hx ⟨q1.1, z.2⟩), if_pos q1]
    · rw [if_neg q1]
      by_cases q2 : bt (mtb fa a nd) y = true ∧ bt (mtb fa b nd) x = true
      · rw [if_pos q2, if_pos q2]
      · rw [if_neg q2, if_neg q2, if_neg q1]; exact hs x y hx hy
  · intro x y hx hy hxy hnx
    rw [hF x y hx hy]
    unfold jn
    rw [if_neg (fun z => by have := bN a x z.1; omega), if_neg (fun z => by have := bN b x z.2; omega)]
    exact ho x y hx hy hxy hnx
  · intro x y hx hy
    rw [hF x y hx hy]
    unfold jn
    by_cases q1 : bt (mtb fa a nd) x = true ∧ bt (mtb fa b nd) y = true
    · rw [if_pos q1]
      exact Or.inr (val x y hx hy ((bA a x ha hx).mp q1.1) (sy hy (by omega) ((bA b y hb hy).mp q1.2)))
    · rw [if_neg q1]
      by_cases q2 : bt (mtb fa a nd) y = true ∧ bt (mtb fa b nd) x = true
      · rw [if_pos q2]
        exact Or.inr (val y x hy hx ((bA a y ha hy).mp q2.1) (sy hx (by omega) ((bA b x hb hx).mp q2.2)))
      · rw [if_neg q2]
        rcases hv x y hx hy with e | ⟨v, hv1, e⟩
        · exact Or.inl e
        · exact Or.inr ⟨v, by rw [Nat.pow_succ]; omega, e⟩
  · intro x y z hx hy hz h1 h2
    have a16 : a < 16 := by omega
    have b16 : b < 16 := by omega
    rw [cF x y hx hy] at h1
    rw [cF y z hy hz] at h2
    rw [cF x z hx hz]
    rcases h1 with h1 | ⟨h1, h1'⟩ | ⟨h1, h1'⟩ <;> rcases h2 with h2 | ⟨h2, h2'⟩ | ⟨h2, h2'⟩
    · exact Or.inl (ht x y z hx hy hz h1 h2)
    · exact Or.inr (Or.inl ⟨ht x y a hx hy a16 h1 h2, h2'⟩)
    · exact Or.inr (Or.inr ⟨h2, ht x y b hx hy b16 h1 h2'⟩)
    · exact Or.inr (Or.inl ⟨h1, ht z y b hz hy b16 (sy hy hz h2) h1'⟩)
    · exact (no2 y hy h2 h1').elim
    · exact Or.inl (ht x a z hx a16 hz h1 (sy hz a16 h2))
    · exact Or.inr (Or.inr ⟨ht z y a hz hy a16 (sy hy hz h2) h1, h1'⟩)
    · exact Or.inl (ht x b z hx b16 hz h1' (sy hz b16 h2'))
    · exact (no2 y hy h1 h2').elim
  · obtain ⟨k, hk, k1, k2⟩ := FA_top h ha hn
    obtain ⟨l, hl2, l1, l2⟩ := FA_top h hb hn
    have hne : k ≠ l := by
      intro e; subst e
      exact ht a k b (by omega) (by omega) (by omega) k2 (sy (by omega) (by omega) l2) hc
    have le : ∀ i, i < nd → ldr F i → ldr fa i := by
      intro i hi q j hj
      have := q j hj
      rcases Classical.em (fa (16 * i + j) = -1) with z | z
      · exact z
      · exact absurd this ((cF i j (by omega) (by omega)).mpr (Or.inl z))
    have : cnP (ldr F) nd + 1 ≤ cnP (ldr fa) nd := by
      rcases Nat.lt_or_gt_of_ne hne with q | q
      · refine cnP_lt (k := l) (by omega) l1 (fun z => ?_) le
        exact (cF l k (by omega) (by omega)).mpr (Or.inr (Or.inr ⟨sy (by omega) (by omega) k2, sy (by omega) (by omega) l2⟩)) (z k q)
      · refine cnP_lt (k := k) (by omega) k1 (fun z => ?_) le
        exact (cF k l (by omega) (by omega)).mpr (Or.inr (Or.inl ⟨sy (by omega) (by omega) k2, sy (by omega) (by omega) l2⟩)) (z l q)
    omega
/-- trees of both -/
def RT (nd bd : Nat) (cav fN oN ln : Nat → Nat) (wy mL fa : Nat → Int64) : Prop :=
  nd ≤ 16 ∧ (∀ j, j < nd → cav j ≤ 16) ∧ (∀ j, j < bd → fN j < nd ∧ oN j < nd ∧ mL j = lN (ln j) ∧ ln j ≤ 100000) ∧ WF nd wy fa ∧ FA nd bd fa
theorem RT_bd {nd bd : Nat} {cav fN oN ln : Nat → Nat} {wy mL fa : Nat → Int64} (h : RT nd bd cav fN oN ln wy mL fa) : bd ≤ 15 := FA_bd h.2.2.2.2 h.1
theorem RT_hb {nd bd : Nat} {cav fN oN ln : Nat → Nat} {wy mL fa : Nat → Int64} (h : RT nd bd cav fN oN ln wy mL fa) : ∀ i j, i < nd → j < nd → wy (i * 16 + j) = -1 → bd < 15 := fun i j hi hj e => FA_15 h.2.2.2.2 h.1 hi hj (by rw [← h.2.2.2.1 i j hi hj]; exact e)
theorem RT_hm {nd bd : Nat} {cav fN oN ln : Nat → Nat} {wy mL fa : Nat → Int64} (h : RT nd bd cav fN oN ln wy mL fa) : ∀ i j, i < nd → j < nd → fa (16 * i + j) < 0 → bd < 15 := fun i j hi hj e => FA_15 h.2.2.2.2 h.1 hi hj ((FA_neg h.2.2.2.2 (RT_bd h) (Nat.lt_of_lt_of_le hi h.1) (Nat.lt_of_lt_of_le hj h.1)).mp e)
theorem RT_node {nd bd : Nat} {cav fN oN ln : Nat → Nat} {wy mL fa : Nat → Int64} (h : RT nd bd cav fN oN ln wy mL fa) {k : Nat} (hk : k ≤ 16) {rv rm : Int32} {c1 c2 : Nat → Nat} {w1 : Nat → Int64} {n1 n2 : Nat} (e1 : (rv, c1, w1, n1) = FaddNode cav wy nd k) (e2 : (rm, c2, n2) = GaddNode cav nd k) : rv = rm ∧ c2 = c1 ∧ n2 = n1 ∧ nd ≤ n1 ∧ RT n1 bd c1 fN oN ln w1 mL fa := by
  obtain ⟨h1, h2, h3, h4, h5⟩ := h
  unfold FaddNode at e1
  unfold GaddNode at e2
  by_cases q : nd < 16
  · rw [if_pos q] at e1
    rw [if_neg (by omega)] at e2
    cases e1; cases e2
    refine ⟨rfl, rfl, rfl, by omega, by omega, fun j hj => ?_, fun j hj => ?_, WF_node h4 h5 q, FA_node h5 q⟩
    · by_cases e : j = nd
      · subst e; rw [updN_at]; exact hk
      · rw [updN_ne _ _ e]; exact h2 j (by omega)
    · have := h3 j hj
      exact ⟨by omega, by omega, this.2.2⟩
  · rw [if_neg q] at e1
    rw [if_pos (by omega)] at e2
    cases e1; cases e2
    exact ⟨rfl, rfl, rfl, Nat.le_refl _, h1, h2, h3, h4, h5⟩
theorem RT_bundle {nd bd : Nat} {cav fN oN ln : Nat → Nat} {wy mL fa : Nat → Int64} (h : RT nd bd cav fN oN ln wy mL fa) {a b : Nat} (ha : a < nd) (hb : b < nd) {len : Int64} (hl : wiN len 1 100000) {rv rm : Int32} {f1 o1 l1 f2 o2 : Nat → Nat} {w1 L2 fa2 : Nat → Int64} {n1 n2 : Nat} (e1 : (rv, f1, o1, l1, w1, n1) = Fbundle fN oN ln wy nd bd a b (lnN len)) (e2 : (rm, f2, o2, L2, fa2, n2) = Gbundle fN oN mL fa nd bd a b len) : rv = rm ∧ f2 = f1 ∧ o2 = o1 ∧ n2 = n1 ∧ RT nd n1 cav f1 o1 l1 w1 L2 fa2 := by
  have hbd := RT_bd h
  obtain ⟨h1, h2, h3, h4, h5⟩ := h
  obtain ⟨v, hv1, hv2, rfl⟩ := lN_of (a := 1) (b := 100000) rfl rfl (by omega) (by omega) hl
  rw [lnN_lN (by omega)] at e1
  unfold Fbundle at e1
  unfold Gbundle at e2
  have hx := FA_neg h5 hbd (i := a) (j := b) (by omega) (by omega)
  by_cases q : wy (a * 16 + b) = -1
  · have q' := q
    rw [h4 a b ha hb] at q'
    rw [if_pos q] at e1
    rw [if_pos (hx.mpr q')] at e2
    cases e1; cases e2
    refine ⟨rfl, rfl, rfl, rfl, h1, h2, fun j hj => ?_, ?_, FA_join h5 h1 ha hb hv2 q'⟩
    · by_cases e : j = bd
      · subst e; rw [updN_at, updN_at, updN_at, updL_at]; exact ⟨ha, hb, rfl, hv2⟩
      · rw [updN_ne _ _ e, updN_ne _ _ e, updN_ne _ _ e, updL_ne _ _ e]; exact h3 j (by omega)
    · rw [tb_mtb h4 h5 h1 hbd ha, tb_mtb h4 h5 h1 hbd hb]
      exact jall_mall h1 ha hb h4 (Nat.le_refl nd)
  · have q' := q
    rw [h4 a b ha hb] at q'
    rw [if_neg q] at e1
    rw [if_neg (fun z => q' (hx.mp z))] at e2
    cases e1; cases e2
    exact ⟨rfl, rfl, rfl, rfl, h1, h2, h3, h4, h5⟩
