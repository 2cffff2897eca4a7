/-! wires, lengths, colours -/
theorem wfind_congr {p q : Nat → Bool} : ∀ {n : Nat}, (∀ i, i < n → p i = q i) → wfind p n = wfind q n
  | 0, _ => rfl
  | n + 1, h => by unfold wfind; rw [wfind_congr (fun i hi => h i (by omega)), h n (by omega)]
theorem mbit_congr {qA qB rA rB g h : Nat → Nat} {v : Nat} (hv : qA v = rA v ∧ qB v = rB v) : ∀ {u : Nat}, (∀ k, k < u → qA k = rA k ∧ qB k = rB k ∧ g k = h k) → mbit qA qB g v u = mbit rA rB h v u
  | 0, _ => rfl
  | u + 1, e => by
    unfold mbit mee
    rw [mbit_congr hv (fun k hk => e k (by omega)), (e u (by omega)).1, (e u (by omega)).2.1, (e u (by omega)).2.2, hv.1, hv.2]
theorem mcol_congr {qA qB rA rB gp : Nat → Nat} : ∀ {v : Nat}, (∀ k, k < v → qA k = rA k ∧ qB k = rB k) → mcol qA qB gp v = mcol rA rB gp v
  | 0, _ => rfl
  | v + 1, e => by
    unfold mcol
    rw [mcol_congr (fun k hk => e k (by omega)), mbit_congr (rA := rA) (rB := rB) (h := mcol rA rB gp v) (e v (by omega)) (fun k hk => ⟨(e k (by omega)).1, (e k (by omega)).2, rfl⟩)]
theorem mcol_keep (qA qB gp : Nat → Nat) : ∀ {v k : Nat}, k < v → mcol qA qB gp v k = mcol qA qB gp (k + 1) k
  | 0, k, h => absurd h (Nat.not_lt_zero k)
  | v + 1, k, h => by
    by_cases e : k = v
    · subst e; rfl
    · have := mcol_keep qA qB gp (v := v) (k := k) (by omega)
      rw [← this]
      show updN _ _ _ k = _
      rw [updN_ne _ _ e]
theorem tk_mbit {eA eB col rA rB g : Nat → Nat} {v : Nat} : ∀ {n : Nat}, (∀ k, k < n → eA k = rA k ∧ eB k = rB k ∧ col k = g k) → tk eA eB col (rA v / 16) (rB v / 16) n = mbit rA rB g v n
  | 0, _ => rfl
  | n + 1, e => by
    unfold tk mbit
    rw [tk_mbit (fun k hk => e k (by omega)), (e n (by omega)).2.2]
    have : (eAt eA eB n (rA v / 16) = true ∨ eAt eA eB n (rB v / 16) = true) ↔ mee rA rB n v = true := by
      unfold eAt mee
      rw [(e n (by omega)).1, (e n (by omega)).2.1]
      simp only [Bool.or_eq_true, decide_eq_true_eq]
      omega
    simp only [this]
theorem frc_lof {x : Int32} {n : Nat} (hn : n < 24) (h : bt x n = false) : frc x = lof x (n + 1) := by
  unfold frc lof
  cases hw : wfind (fun c => ! bt x c) (n + 1) with
  | none => have := wfind_none.mp hw n (by omega); simp [h] at this
  | some c =>
    obtain ⟨h1, h2, h3⟩ := wfind_some hw
    rw [wfind_at (wfind_none.mpr h3) h2 (show c < 24 by omega)]
    rfl
/-- wires of both -/
def RW (nd wn : Nat) (eA eB col : Nat → Nat) (lo : Nat → Int64) (wa : Nat → Int32) : Prop :=
  wn ≤ 24 ∧ (∀ k, k < wn → eA k < 16 * nd ∧ eB k < 16 * nd) ∧
  (∀ e, e < 256 → (wa e = -1 ∧ wfind (atE eA eB e) wn = none) ∨ ∃ p, p < wn ∧ wa e = nI p ∧ wfind (atE eA eB e) wn = some p) ∧
  (∀ k gp, k < wn → col k = mcol eA eB gp (k + 1) k) ∧ (∀ w, wn ≤ w → lo w = 0)
theorem RW_nd {nd n1 wn : Nat} {eA eB col : Nat → Nat} {lo : Nat → Int64} {wa : Nat → Int32} (h : RW nd wn eA eB col lo wa) (hn : nd ≤ n1) : RW n1 wn eA eB col lo wa :=
  ⟨h.1, fun k hk => by have := h.2.1 k hk; omega, h.2.2⟩
theorem RW_A {nd wn : Nat} {eA eB col : Nat → Nat} {lo : Nat → Int64} {wa : Nat → Int32} (h : RW nd wn eA eB col lo wa) (hn : nd ≤ 16) : ∀ k, k < wn → eA k < 256 := fun k hk => by have := h.2.1 k hk; omega
theorem RW_B {nd wn : Nat} {eA eB col : Nat → Nat} {lo : Nat → Int64} {wa : Nat → Int32} (h : RW nd wn eA eB col lo wa) (hn : nd ≤ 16) : ∀ k, k < wn → eB k < 256 := fun k hk => by have := h.2.1 k hk; omega
theorem RW_wa {nd wn : Nat} {eA eB col : Nat → Nat} {lo : Nat → Int64} {wa : Nat → Int32} (h : RW nd wn eA eB col lo wa) : ∀ e, e < 256 → wa e = -1 ∨ ∃ p, p < wn ∧ wa e = nI p := fun e he => by
  rcases h.2.2.1 e he with q | ⟨p, q1, q2, _⟩
  · exact Or.inl q.1
  · exact Or.inr ⟨p, q1, q2⟩
theorem RW_none {nd wn : Nat} {eA eB col : Nat → Nat} {lo : Nat → Int64} {wa : Nat → Int32} (h : RW nd wn eA eB col lo wa) {e : Nat} (he : e < 256) : wa e = -1 ↔ wfind (atE eA eB e) wn = none := by
  rcases h.2.2.1 e he with q | ⟨p, q1, q2, q3⟩
  · exact ⟨fun _ => q.2, fun _ => q.1⟩
  · rw [q2, q3]
    have := h.1
    exact ⟨fun z => absurd z (nI_m1 (by omega)), fun z => by cases z⟩
theorem RW_wire {nd wn : Nat} {eA eB col : Nat → Nat} {lo dr : Nat → Int64} {wa : Nat → Int32} (h : RW nd wn eA eB col lo wa) (hn : nd ≤ 16) {x y x' y' : Nat} (hx : x < 16 * nd) (hy : y < 16 * nd) (ex : x' = x) (ey : y' = y) {rv rm : Int32} {A1 B1 c1 A2 B2 : Nat → Nat} {lo1 dr1 dr2 : Nat → Int64} {wa2 : Nat → Int32} {n1 n2 : Nat} (e1 : (rv, A1, B1, c1, lo1, dr1, n1) = Fwire eA eB col lo dr wn x y) (e2 : (rm, A2, B2, dr2, wa2, n2) = Gwire eA eB dr wa wn x' y') : rv = rm ∧ A2 = A1 ∧ B2 = B1 ∧ lo1 = lo ∧ dr2 = dr1 ∧ n2 = n1 ∧ wn ≤ n1 ∧ RW nd n1 A1 B1 c1 lo wa2 := by
  subst ex; subst ey
  unfold Fwire at e1
  unfold Gwire at e2
  have hw := h.1
  by_cases q : wn < 24 ∧ x' ≠ y' ∧ wfind (atE eA eB x') wn = none ∧ wfind (atE eA eB y') wn = none
  · rw [if_pos q] at e1
    rw [if_pos ⟨q.2.1, (RW_none h (by omega)).mpr q.2.2.1, (RW_none h (by omega)).mpr q.2.2.2, by omega⟩] at e2
    cases e1; cases e2
    have hlo : vp_updL lo wn 0 = lo := by
      funext j
      unfold vp_updL
      split
      · rename_i e; rw [e]; exact (h.2.2.2.2 wn (Nat.le_refl wn)).symm
      · rfl
    have kA : ∀ k, k < wn → updN eA wn x' k = eA k ∧ updN eB wn y' k = eB k := fun k hk => ⟨updN_ne _ _ (by omega), updN_ne _ _ (by omega)⟩
    refine ⟨rfl, rfl, rfl, hlo, rfl, rfl, by omega, by omega, fun k hk => ?_, fun e he => ?_, fun k gp hk => ?_, fun w hw => h.2.2.2.2 w (by omega)⟩
    · by_cases e : k = wn
      · subst e; rw [updN_at, updN_at]; exact ⟨hx, hy⟩
      · rw [updN_ne _ _ e, updN_ne _ _ e]; exact h.2.1 k (by omega)
    · have hc : wfind (atE (updN eA wn x') (updN eB wn y') e) wn = wfind (atE eA eB e) wn := wfind_congr (fun i hi => by unfold atE; rw [(kA i hi).1, (kA i hi).2])
      have hl : atE (updN eA wn x') (updN eB wn y') e wn = (decide (x' = e) || decide (y' = e)) := by unfold atE; rw [updN_at, updN_at]
      rcases h.2.2.1 e he with z | ⟨p, z1, z2, z3⟩
      · by_cases ee : e = x' ∨ e = y'
        · refine Or.inr ⟨wn, by omega, ?_, ?_⟩
          · unfold upd; rcases ee with ee | ee
            · subst ee; by_cases e3 : e = y' <;> simp [e3]
            · subst ee; simp
          · refine wfind_at (hc.trans z.2) ?_ (by omega)
            rw [hl]
            rcases ee with ee | ee <;> simp [ee]
        · refine Or.inl ⟨?_, ?_⟩
          · rw [upd_ne _ _ (fun z => ee (Or.inr z)), upd_ne _ _ (fun z => ee (Or.inl z))]; exact z.1
          · refine wfind_next (hc.trans z.2) ?_
            rw [hl]
            have a1 : ¬ x' = e := fun z => ee (Or.inl z.symm)
            have a2 : ¬ y' = e := fun z => ee (Or.inr z.symm)
            simp [a1, a2]
      · have a1 : ¬ e = x' := by intro z; subst z; rw [z3] at q; cases q.2.2.1
        have a2 : ¬ e = y' := by intro z; subst z; rw [z3] at q; cases q.2.2.2
        refine Or.inr ⟨p, by omega, ?_, ?_⟩
        · rw [upd_ne _ _ a2, upd_ne _ _ a1]; exact z2
        · have z4 := hc.trans z3
          obtain ⟨s1, s2, s3⟩ := wfind_some z4
          exact wfind_at (wfind_none.mpr s3) s2 (by omega)
    · by_cases e : k = wn
      · subst e
        have hm : mcol (updN eA k x') (updN eB k y') gp k = mcol eA eB gp k := mcol_congr (fun j hj => kA j hj)
        have hcol : ∀ j, j < k → col j = mcol eA eB gp k j := fun j hj => by rw [h.2.2.2.1 j gp hj]; exact (mcol_keep eA eB gp hj).symm
        rw [updN_at]
        show frc _ = updN _ _ _ k
        rw [updN_at]
        have ht : tk eA eB col (x' / 16) (y' / 16) k = mbit (updN eA k x') (updN eB k y') (mcol (updN eA k x') (updN eB k y') gp k) k k := by
          rw [hm]
          have := tk_mbit (eA := eA) (eB := eB) (col := col) (rA := updN eA k x') (rB := updN eB k y') (g := mcol eA eB gp k) (v := k) (n := k) (fun j hj => ⟨(kA j hj).1.symm, (kA j hj).2.symm, hcol j hj⟩)
          rw [updN_at, updN_at] at this
          exact this
        rw [ht]
        refine frc_lof q.1 ?_
        exact mbit_hi (by omega) (fun j hj => by have := mcol_le (updN eA k x') (updN eB k y') gp k j (by omega) hj; omega)
      · rw [updN_ne _ _ e, h.2.2.2.1 k gp (by omega), mcol_congr (rA := updN eA wn x') (rB := updN eB wn y') (fun j hj => ⟨(kA j (by omega)).1.symm, (kA j (by omega)).2.symm⟩)]
  · rw [if_neg q] at e1
    rw [if_neg (fun z => q ⟨by omega, z.1, (RW_none h (by omega)).mp z.2.1, (RW_none h (by omega)).mp z.2.2.1⟩)] at e2
    cases e1; cases e2
    exact ⟨rfl, rfl, rfl, rfl, rfl, rfl, Nat.le_refl _, h⟩
/-- slack of both -/
def RL0 (sa sb : Int64) : Prop := ∃ s1 s2 : Nat, sa = lN s1 ∧ sb = lN s2 ∧ s1 ≤ s2 ∧ 1 ≤ s2 ∧ s2 ≤ 1000
theorem RL0_sb {sa sb : Int64} (h : RL0 sa sb) : ¬ sb = 0 := by
  obtain ⟨s1, s2, _, rfl, _, h1, h2⟩ := h
  intro q
  have := (pk_lEQ (a := s2) (b := 0) (by omega) (by omega)).mp q
  omega
theorem RL0_new {x y : Int64} (h1 : wiN y 1 1000) (h2 : wiN x 0 y) : RL0 x y := by
  obtain ⟨s2, a1, a2, rfl⟩ := lN_of (a := 1) (b := 1000) rfl rfl (by omega) (by omega) h1
  obtain ⟨s1, b1, b2, rfl⟩ := lN_of (a := 0) (b := s2) rfl rfl (by omega) (by omega) h2
  exact ⟨s1, s2, rfl, rfl, b2, a1, a2⟩
theorem cut_lenO {nd bd wn : Nat} {eA eB col : Nat → Nat} {lo wy fa : Nat → Int64} {wa : Nat → Int32} {sa sb : Int64} (h : RW nd wn eA eB col lo wa) (hn : nd ≤ 16) (hw : WF nd wy fa) (hf : FA nd bd fa) (hb : bd ≤ 15) {i : Nat} (hi : i < wn) : cutL wy eA eB sa sb i = lenO fa eA eB sa sb i := by
  have h1 := h.2.1 i hi
  unfold cutL lenO
  rw [hw (eA i / 16) (eB i / 16) (by omega) (by omega)]
  have hx := FA_neg hf hb (i := eA i / 16) (j := eB i / 16) (by omega) (by omega)
  by_cases q : fa (16 * (eA i / 16) + eB i / 16) = -1
  · rw [if_pos q, if_neg]
    rw [q]; decide
  · rw [if_neg q, if_pos]
    exact Int64.not_lt.mp (fun z => q (hx.mp z))
theorem lenO_pos {nd bd wn : Nat} {eA eB col : Nat → Nat} {lo fa : Nat → Int64} {wa : Nat → Int32} {sa sb : Int64} (h : RW nd wn eA eB col lo wa) (hn : nd ≤ 16) (hf : FA nd bd fa) (hb : bd ≤ 15) (hs : RL0 sa sb) {i : Nat} (hi : i < wn) : lenO fa eA eB sa sb i = -1 ∨ ∃ v, v < 2 ^ 40 ∧ lenO fa eA eB sa sb i = lN v := by
  have h1 := h.2.1 i hi
  obtain ⟨s1, s2, rfl, rfl, k1, k2, k3⟩ := hs
  unfold lenO
  rcases hf.2.2.2.1 (eA i / 16) (eB i / 16) (by omega) (by omega) with e | ⟨v, hv, e⟩
  · rw [e]; exact Or.inl (if_neg (by decide))
  · rw [e]
    have hp : (2 : Nat) ^ bd ≤ 2 ^ 15 := Nat.pow_le_pow_right (by omega) hb
    have hv2 : v ≤ 3276800000 := by omega
    right
    have hm : v * s1 ≤ 3276800000 * 1000 := Nat.mul_le_mul hv2 (by omega)
    refine ⟨v + (v * s1 + s2 - 1) / s2, ?_, ?_⟩
    · have : (v * s1 + s2 - 1) / s2 ≤ v + 1 := by
        refine (Nat.div_le_iff_le_mul (by omega)).mpr ?_
        have : v * s1 ≤ v * s2 := Nat.mul_le_mul_left v k1
        rw [Nat.add_mul]
        omega
      omega
    · rw [if_pos (by have := (pk_lLE (a := 0) (b := v) (by omega) (by omega)).mpr (Nat.zero_le v); exact this)]
      rw [lN_mul, lN_add, show (1 : Int64) = lN 1 from rfl, lN_sub (by omega), pk_lDiv (by omega) (by omega) (by omega), lN_add]
