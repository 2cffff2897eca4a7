/-! the table, variants, splices -/
def RG (ar : Nat → Int64) (td : Nat → Int32) : Prop := ∀ r, r < 10 → (td r = 0 ∧ ar r = 0) ∨ (td r ≠ 0 ∧ ∃ v, 1 ≤ v ∧ v ≤ 1000000 ∧ ar r = lN v)
theorem RG_new {ar : Nat → Int64} {td : Nat → Int32} (h : RG ar td) {x : Nat} {y : Int64} (hy : wiN y 1 1000000) : RG (vp_updL ar x y) (upd td x 1) := by
  intro r hr
  by_cases e : r = x
  · subst e
    rw [updL_at, upd_at]
    obtain ⟨v, a1, a2, rfl⟩ := lN_of (a := 1) (b := 1000000) rfl rfl (by omega) (by omega) hy
    exact Or.inr ⟨by decide, v, a1, a2, rfl⟩
  · rw [updL_ne _ _ e, upd_ne _ _ e]; exact h r hr
theorem RG_told {ar ma mo : Nat → Int64} {td : Nat → Int32} (h : RG ar td) {x : Nat} (hx : x < 10) {y z q : Int64} (hy : wiN y 1 1000000) : (decide (ar x = y) && decide (ma x = z) && decide (mo x = q)) = (!(decide (td x = 0)) && decide (ar x = y) && decide (ma x = z) && decide (mo x = q)) := by
  rcases h x hx with e | e
  · have : ¬ ar x = y := by
      obtain ⟨v, a1, a2, rfl⟩ := lN_of (a := 1) (b := 1000000) rfl rfl (by omega) (by omega) hy
      rw [e.2]
      intro q
      have := (pk_lEQ (a := 0) (b := v) (by omega) (by omega)).mp q
      omega
    simp [this]
  · simp [e.1]
theorem ltw_mgg {ar : Nat → Int64} {p q : Nat → Bool} : ∀ {n : Nat}, (∀ r, r < n → p r = q r ∧ (p r = true → ar r < 1000001)) → ltw ar p n = (match mgg q ar n with | none => (-1, 1000001) | some r => (nI r, ar r))
  | 0, _ => rfl
  | n + 1, h => by
    have ih := ltw_mgg (n := n) (fun r hr => h r (by omega))
    have h1 := h n (by omega)
    unfold ltw mgg
    rw [ih]
    cases hc : mgg q ar n with
    | none =>
      simp only
      by_cases c : q n = true
      · rw [if_pos c, if_pos ⟨h1.2 (h1.1.trans c), h1.1.trans c⟩]
      · rw [if_neg c, if_neg (fun z => c (h1.1 ▸ z.2))]
    | some r =>
      simp only
      by_cases c : q n = true ∧ ar n < ar r
      · rw [if_pos c, if_pos ⟨c.2, h1.1.trans c.1⟩]
      · rw [if_neg c, if_neg (fun z => c ⟨h1.1 ▸ z.2, z.1⟩)]
theorem gauge_eq {ar ma mo lo dr : Nat → Int64} {td : Nat → Int32} (h : RG ar td) {cut : Int64} {w : Nat} (hc : cut = -1 ∨ ∃ v, v < 2 ^ 40 ∧ cut = lN v) : Fgauge ar ma mo lo dr cut w = if cut < 0 then -1 else oI (mgg (mdo td ma mo (lo w) (dr w) cut) ar 10) := by
  unfold Fgauge
  rcases hc with e | ⟨v, hv, e⟩
  · rw [if_pos e, if_pos (by rw [e]; decide)]
  · rw [if_neg (by rw [e]; exact lN_m1 (by omega)), if_neg (by rw [e]; exact lN_neg (by omega))]
    rw [ltw_mgg (q := mdo td ma mo (lo w) (dr w) cut)]
    · cases mgg (mdo td ma mo (lo w) (dr w) cut) ar 10 <;> rfl
    · intro r hr
      unfold wdo mdo
      rcases h r hr with z | ⟨z1, v, z2, z3, z4⟩
      · rw [z.1, z.2]
        refine ⟨by simp, fun q => ?_⟩
        simp at q
      · have h1 : ¬ ar r ≤ 0 := by
          rw [z4]; intro q
          have := (pk_lLE (a := v) (b := 0) (by omega) (by omega)).mp q
          omega
        refine ⟨by simp only [h1, z1], fun _ => ?_⟩
        rw [z4]
        exact (pk_lLT (a := v) (b := 1000001) (by omega) (by omega)).mpr (by omega)
/-- variants of both -/
def RV (vc : Nat) (tw ow : Nat → Int32) (mk : Nat → Nat) : Prop := vc ≤ 6 ∧ (∀ k, k < 144 → mk k ≤ 2) ∧ ∀ v w, v < 6 → w < 24 → bt (tw v) w = !(decide (mk (24 * v + w) = 0)) ∧ (mk (24 * v + w) ≠ 0 → bt (ow v) w = decide (mk (24 * v + w) = 1))
theorem von_mon {vc : Nat} {tw ow : Nat → Int32} {mk : Nat → Nat} (h : RV vc tw ow mk) {w : Nat} (hw : w < 24) : ∀ {k : Nat}, k ≤ 6 → von tw ow w k = mon mk w k
  | 0, _ => rfl
  | k + 1, hk => by
    have ih := von_mon h hw (k := k) (by omega)
    obtain ⟨h1, h2⟩ := h.2.2 k w (by omega) hw
    unfold von mon
    rw [h1, ih]
    by_cases c : mk (24 * k + w) = 0
    · simp [c]
    · simp only [c, decide_false, Bool.not_false, if_true, if_false]
      exact h2 c
theorem RV_has {vc : Nat} {tw ow : Nat → Int32} {mk : Nat → Nat} (h : RV vc tw ow mk) {v w : Nat} (hv : v < 6) (hw : w < 24) (on : Bool) : RV vc (upd tw v (tw v ||| (nI 1 <<< (nI w &&& 31)))) (owput ow v w on) (updN mk (24 * v + w) (if on = true then 1 else 2)) := by
  refine ⟨h.1, fun k hk => ?_, fun v' w' hv' hw' => ?_⟩
  · unfold updN; split
    · split <;> omega
    · exact h.2.1 k hk
  · obtain ⟨h1, h2⟩ := h.2.2 v' w' hv' hw'
    by_cases e : v' = v
    · subst e
      unfold owput
      rw [upd_at, upd_at, b_or, b_one w (by omega) (by omega), h1]
      by_cases e2 : w' = w
      · subst e2
        rw [updN_at]
        cases on
        · refine ⟨by simp, fun _ => ?_⟩
          simp only [Bool.false_eq_true, if_false]
          rw [b_and, b_xor, b_one w' (by omega) (by omega), b_m1 w' (by omega)]
          simp
        · refine ⟨by simp, fun _ => ?_⟩
          simp only [if_true]
          rw [b_or, b_one w' (by omega) (by omega)]
          simp
      · rw [updN_ne _ _ (by omega)]
        refine ⟨by simp [e2], fun q => ?_⟩
        rw [← h2 q]
        cases on
        · simp only [Bool.false_eq_true, if_false]
          rw [b_and, b_xor, b_one w (by omega) (by omega), b_m1 w' (by omega)]
          simp [e2]
        · simp only [if_true]
          rw [b_or, b_one w (by omega) (by omega)]
          simp [e2]
    · unfold owput
      rw [upd_ne _ _ e, upd_ne _ _ e, updN_ne _ _ (by omega)]
      exact ⟨h1, h2⟩
theorem cnt_congr {p q : Nat → Bool} : ∀ {n : Nat}, (∀ i, i < n → p i = q i) → cnt p n = cnt q n
  | 0, _ => rfl
  | n + 1, h => by unfold cnt; rw [cnt_congr (fun i hi => h i (by omega)), h n (by omega)]
theorem told_eq {vc wn : Nat} {tw ow : Nat → Int32} {mk eA eB : Nat → Nat} (h : RV vc tw ow mk) (hw : wn ≤ 24) (k : Int32) (s : Nat) : Ftold eA eB tw ow vc wn k s = Gtold eA eB mk vc wn k s := by
  unfold Ftold Gtold
  have : wfind (koff (fun i => von tw ow i vc) (cN k)) wn = wfind (koff (fun i => mon mk i vc) (cN k)) wn := by
    refine wfind_congr (fun i hi => ?_)
    unfold koff
    rw [cnt_congr (q := fun i => mon mk i vc) (fun j hj => von_mon h (by omega) h.1)]
    simp only [von_mon h (show i < 24 by omega) h.1]
  rw [this]
  cases wfind (koff (fun i => mon mk i vc) (cN k)) wn <;> rfl
/-- groups by the list of the splices -/
def eqE (pA pB : Nat → Nat) : Nat → Nat → Nat
  | 0, x => x
  | k + 1, x => if eqE pA pB k x = eqE pA pB k (pA k) then eqE pA pB k (pB k) else eqE pA pB k x
theorem eqE_congr {pA pB qA qB : Nat → Nat} : ∀ {k : Nat}, (∀ i, i < k → pA i = qA i ∧ pB i = qB i) → ∀ x, eqE pA pB k x = eqE qA qB k x
  | 0, _, _ => rfl
  | k + 1, h, x => by
    have ih := eqE_congr (k := k) (fun i hi => h i (by omega))
    simp only [eqE, ih, (h k (by omega)).1, (h k (by omega)).2]
theorem mgm_at {g : Nat → Nat} {fr to : Nat} : ∀ {n x : Nat}, mgm g fr to n x = if x < n then (if g x = fr then to else g x) else g x
  | 0, x => by rw [if_neg (by omega)]; rfl
  | n + 1, x => by
    have ih := mgm_at (g := g) (fr := fr) (to := to) (n := n) (x := x)
    unfold mgm
    by_cases e : x = n
    · subst e
      rw [updN_at, mgm_ge g fr to (Nat.le_refl x), if_pos (show x < x + 1 by omega)]
    · rw [updN_ne _ _ e, ih]
      by_cases q : x < n
      · rw [if_pos q, if_pos (show x < n + 1 by omega)]
      · rw [if_neg q, if_neg (show ¬ x < n + 1 by omega)]
theorem mg_at {g : Nat → Nat} {kept gone : Nat} : ∀ {n x : Nat}, mg g kept gone n x = if x < n then (if g x = gone then kept else g x) else g x
  | 0, x => by rw [if_neg (by omega)]; rfl
  | n + 1, x => by
    have ih := mg_at (g := g) (kept := kept) (gone := gone) (n := n) (x := x)
    unfold mg
    by_cases e : x = n
    · subst e
      rw [mg_ge g kept gone (Nat.le_refl x), if_pos (show x < x + 1 by omega)]
      by_cases c : g x = gone
      · rw [if_pos c, if_pos c, updN_at]
      · rw [if_neg c, if_neg c, mg_ge g kept gone (Nat.le_refl x)]
    · have hc : (if x < n then (if g x = gone then kept else g x) else g x) = (if x < n + 1 then (if g x = gone then kept else g x) else g x) := by
        by_cases q : x < n
        · rw [if_pos q, if_pos (show x < n + 1 by omega)]
        · rw [if_neg q, if_neg (show ¬ x < n + 1 by omega)]
      by_cases c : mg g kept gone n n = gone
      · rw [if_pos c, updN_ne _ _ e, ih, hc]
      · rw [if_neg c, ih, hc]
theorem gall_E {gp pA pB : Nat → Nat} {mw : Nat} : ∀ {m : Nat}, (∀ k, k < m → pA k < mw ∧ pB k < mw) → ∀ x, x < mw → gall gp pA pB mw m x = eqE pA pB m x
  | 0, _, x, hx => gidm_at gp mw x hx
  | m + 1, h, x, hx => by
    have ih := gall_E (gp := gp) (m := m) (fun k hk => h k (by omega))
    show mgm _ _ _ mw x = _
    rw [mgm_at, if_pos hx, ih x hx, ih (pA m) (h m (by omega)).1, ih (pB m) (h m (by omega)).2]
    rfl
theorem anyB_congr {p q : Nat → Bool} : ∀ {n : Nat}, (∀ i, i < n → p i = q i) → anyB p n = anyB q n
  | 0, _ => rfl
  | n + 1, h => by unfold anyB; rw [anyB_congr (fun i hi => h i (by omega)), h n (by omega)]
theorem merge_iff {gu gv gx gy eu ev ex ey : Nat} (a1 : gu = gv ↔ eu = ev) (a2 : gu = gx ↔ eu = ex) (a3 : gu = gy ↔ eu = ey) (a4 : gv = gx ↔ ev = ex) (a5 : gv = gy ↔ ev = ey) (a6 : gx = gy ↔ ex = ey) : ((if gu = gy then gx else gu) = (if gv = gy then gx else gv)) ↔ ((if eu = ex then ey else eu) = (if ev = ex then ey else ev)) := by
  split <;> split <;> split <;> split <;> omega
/-- splices of both -/
def RS (wn sc : Nat) (pa : Nat → Int32) (gr pA pB : Nat → Nat) : Prop :=
  sc ≤ 20 ∧ (∀ k, k < 24 → gr k < 24) ∧ (∀ k, k < sc → pA k < wn ∧ pB k < wn) ∧
  (∀ x y, x < 24 → y < 24 → bt (pa x) y = anyB (spb pA pB x y) sc) ∧
  (∀ x y, x < 24 → y < 24 → (gr x = gr y ↔ eqE pA pB sc x = eqE pA pB sc y))
theorem RS_wn {wn w1 sc : Nat} {pa : Nat → Int32} {gr pA pB : Nat → Nat} (h : RS wn sc pa gr pA pB) (hw : wn ≤ w1) : RS w1 sc pa gr pA pB :=
  ⟨h.1, h.2.1, fun k hk => by have := h.2.2.1 k hk; omega, h.2.2.2⟩
theorem pput_bt {pa : Nat → Int32} {a b : Nat} (ha : a < 24) (hb : b < 24) (hab : a ≠ b) {x y : Nat} (hy : y < 24) : bt (pput pa a b x) y = (bt (pa x) y || ((decide (a = x) && decide (b = y)) || (decide (a = y) && decide (b = x)))) := by
  unfold pput
  by_cases e : x = b
  · subst e
    rw [upd_at, b_or, upd_ne _ _ (fun z => hab z.symm), b_one a (by omega) (by omega)]
    have h1 : ¬ a = x := hab
    by_cases e2 : y = a
    · subst e2; simp
    · have : ¬ a = y := fun z => e2 z.symm
      simp [h1, e2, this]
  · rw [upd_ne _ _ e]
    by_cases e3 : x = a
    · subst e3
      rw [upd_at, b_or, b_one b (by omega) (by omega)]
      by_cases e2 : y = b
      · subst e2; simp
      · have h1 : ¬ b = y := fun z => e2 z.symm
        have h2 : ¬ b = x := fun z => e z.symm
        simp [h1, h2, e2]
    · rw [upd_ne _ _ e3]
      have h1 : ¬ a = x := fun z => e3 z.symm
      have h2 : ¬ b = x := fun z => e z.symm
      simp [h1, h2]
theorem RS_splice {wn sc : Nat} {pa : Nat → Int32} {gr pA pB : Nat → Nat} (h : RS wn sc pa gr pA pB) (hw : wn ≤ 24) {x y : Nat} (hx : x < wn) (hy : y < wn) {rv rm : Int32} {pa1 : Nat → Int32} {gr1 A2 B2 : Nat → Nat} {n1 n2 : Nat} (e1 : (rv, pa1, gr1, n1) = Fsplice pa gr sc x y) (e2 : (rm, A2, B2, n2) = Gsplice pA pB sc x y) : rv = rm ∧ n2 = n1 ∧ RS wn n1 pa1 gr1 A2 B2 := by
  unfold Fsplice at e1
  unfold Gsplice at e2
  have h20 := h.1
  have hb := h.2.2.2.1 x y (by omega) (by omega)
  by_cases q : x ≠ y ∧ sc < 20 ∧ bt (pa x) y = false
  · rw [if_pos q] at e1
    rw [if_neg (by rw [← hb, q.2.2]; simp [q.1]; omega)] at e2
    simp only [Prod.mk.injEq] at e1 e2
    obtain ⟨i1, i2, i3, i4⟩ := e1
    obtain ⟨j1, j2, j3, j4⟩ := e2
    rw [i1, i2, i3, i4, j1, j2, j3, j4]
    clear i1 i2 i3 i4 j1 j2 j3 j4
    have kp : ∀ i, i < sc → pA i = updN pA sc x i ∧ pB i = updN pB sc y i := fun i hi => ⟨(updN_ne _ _ (by omega)).symm, (updN_ne _ _ (by omega)).symm⟩
    refine ⟨rfl, rfl, by omega, fun k hk => ?_, fun k hk => ?_, fun u v hu hv => ?_, fun u v hu hv => ?_⟩
    · rw [mg_at, if_pos hk]
      have := h.2.1 x (by omega)
      have := h.2.1 k hk
      split <;> omega
    · by_cases e : k = sc
      · subst e; rw [updN_at, updN_at]; exact ⟨hx, hy⟩
      · rw [updN_ne _ _ e, updN_ne _ _ e]; exact h.2.2.1 k (by omega)
    · rw [pput_bt (by omega) (by omega) q.1 hv, h.2.2.2.1 u v hu hv]
      show _ = (anyB _ sc || spb _ _ u v sc)
      rw [anyB_congr (p := spb (updN pA sc x) (updN pB sc y) u v) (q := spb pA pB u v) (n := sc) (fun i hi => by unfold spb; rw [← (kp i hi).1, ← (kp i hi).2])]
      have : spb (updN pA sc x) (updN pB sc y) u v sc = ((decide (x = u) && decide (y = v)) || (decide (x = v) && decide (y = u))) := by unfold spb; rw [updN_at, updN_at]
      rw [this]
    · have h24 := h.2.2.2.2
      rw [mg_at, if_pos hu, mg_at, if_pos hv]
      simp only [eqE]
      rw [updN_at, updN_at]
      simp only [← eqE_congr (k := sc) kp]
      have a1 := h24 u v hu hv
      have a2 := h24 u x hu (by omega)
      have a3 := h24 u y hu (by omega)
      have a4 := h24 v x hv (by omega)
      have a5 := h24 v y hv (by omega)
      have a6 := h24 x y (by omega) (by omega)
      exact merge_iff a1 a2 a3 a4 a5 a6
  · rw [if_neg q] at e1
    rw [if_pos] at e2
    · cases e1; cases e2; exact ⟨rfl, rfl, h⟩
    · rw [← hb]
      simp only [Bool.or_eq_true, decide_eq_true_eq]
      by_cases c1 : x = y
      · exact Or.inl (Or.inl c1)
      · by_cases c2 : sc = 20
        · exact Or.inl (Or.inr c2)
        · right
          cases hh : bt (pa x) y
          · exact absurd ⟨c1, by omega, hh⟩ q
          · rfl
theorem joined_eq {nd wn sc : Nat} {eA eB col gr pA pB gp : Nat → Nat} {lo : Nat → Int64} {wa pa : Nat → Int32} (hR : RW nd wn eA eB col lo wa) (hS : RS wn sc pa gr pA pB) (hn : nd ≤ 16) {i k j m : Nat} (hi : i < nd) (hk : k < 16) (hj : j < nd) (hm : m < 16) : Fjoined eA eB gr wn (i * 16 + k) (j * 16 + m) = Gjoined wa gp pA pB wn sc i k j m := by
  have hw := hR.1
  unfold Fjoined Gjoined
  rw [show i * 16 + k = 16 * i + k by omega, show j * 16 + m = 16 * j + m by omega]
  have hE := gall_E (gp := gp) (pA := pA) (pB := pB) (mw := wn) (m := sc) hS.2.2.1
  by_cases c : 16 * i + k = 16 * j + m
  · rw [if_pos c]
    have e := (ix16 hk hm).mp c
    rw [← e.1, ← e.2]
    by_cases c2 : wa (16 * i + k) = -1 ∨ wa (16 * i + k) = -1
    · rw [if_pos c2]; simp
    · rw [if_neg c2]; simp
  · rw [if_neg c]
    have hne : (decide (i = j) && decide (k = m)) = false := by
      cases hd : (decide (i = j) && decide (k = m))
      · rfl
      · simp only [Bool.and_eq_true, decide_eq_true_eq] at hd
        exact absurd ((ix16 hk hm).mpr hd) c
    rcases hR.2.2.1 (16 * i + k) (by omega) with z | ⟨p, z1, z2, z3⟩
    · rw [z.2, if_pos (Or.inl z.1), hne]
    · rcases hR.2.2.1 (16 * j + m) (by omega) with y | ⟨q, y1, y2, y3⟩
      · rw [y.2, if_pos (Or.inr y.1), hne, z3]
      · rw [z3, y3, z2, y2, if_neg (by rintro (t | t); exact nI_m1 (by omega) t; exact nI_m1 (by omega) t), cN_nI (by omega), cN_nI (by omega), hE p z1, hE q y1]
        show decide _ = decide _
        rw [decide_eq_decide]
        exact hS.2.2.2.2 p q (by omega) (by omega)
