def anyB (p : Nat → Bool) : Nat → Bool
  | 0 => false
  | k + 1 => anyB p k || p k
def spb (pA pB : Nat → Nat) (x y k : Nat) : Bool := (decide (pA k = x) && decide (pB k = y)) || (decide (pA k = y) && decide (pB k = x))
def Gsplice (pA pB : Nat → Nat) (mz x y : Nat) : Int32 × (Nat → Nat) × (Nat → Nat) × Nat := if ((decide (x = y) || decide (mz = 20)) || anyB (spb pA pB x y) mz) = true then (-1, pA, pB, mz) else (nI (mz + 1), updN pA mz x, updN pB mz y, mz + 1)
def Gtold (qA qB mk : Nat → Nat) (mv mw : Nat) (k : Int32) (side : Nat) : Int32 := if k < 0 ∨ mv = 0 then -1 else match wfind (koff (fun i => mon mk i mv) (cN k)) mw with
  | none => -1
  | some w => if side = 0 then nI (qA w) else nI (qB w)
def mee (qA qB : Nat → Nat) (v w : Nat) : Bool := (decide (qA v / 16 = qA w / 16) || decide (qA v / 16 = qB w / 16)) || (decide (qB v / 16 = qA w / 16) || decide (qB v / 16 = qB w / 16))
def mbit (qA qB gp : Nat → Nat) (v : Nat) : Nat → Int32
  | 0 => nI 0
  | u + 1 => if mee qA qB u v = true then mbit qA qB gp v u ||| (nI 1 <<< (nI (gp u) &&& 31)) else mbit qA qB gp v u
def lof (x : Int32) (n : Nat) : Nat := (wfind (fun c => ! bt x c) n).getD n
def mcol (qA qB gp : Nat → Nat) : Nat → Nat → Nat
  | 0 => gp
  | v + 1 => updN (mcol qA qB gp v) v (lof (mbit qA qB (mcol qA qB gp v) v v) (v + 1))
theorem hb1_iff {x : Int32} {n : Nat} (hn : n < 32) : (x >>> (nI n &&& 31)) &&& nI 1 = nI 1 ↔ bt x n = true := by
  constructor
  · intro h
    cases e : bt x n with
    | true => rfl
    | false =>
      have h2 := (hb_iff hn).mpr e
      rw [h2] at h
      exact absurd h (by decide)
  · intro h
    refine b_ext (fun i hi => ?_)
    rw [b_and, b_1 i hi]
    by_cases h0 : i = 0
    · subst h0
      rw [b_sshr n hn x (by omega), if_pos (by omega)]
      simp [h]
    · simp [h0]
theorem mbit_hi {qA qB gp : Nat → Nat} {v b : Nat} (hb : b < 32) : ∀ {u : Nat}, (∀ k, k < u → gp k < b) → bt (mbit qA qB gp v u) b = false
  | 0, _ => b_0 b
  | u + 1, h => by
    have ih := mbit_hi (qA := qA) (qB := qB) (v := v) hb (u := u) (fun k hk => h k (by omega))
    unfold mbit
    split
    · have := h u (by omega)
      rw [b_or, ih, b_one (gp u) (by omega) hb]
      simp; omega
    · exact ih
theorem mcol_le (qA qB gp : Nat → Nat) : ∀ v k, v ≤ 24 → k < v → mcol qA qB gp v k ≤ k
  | 0, k, _, h => absurd h (Nat.not_lt_zero k)
  | v + 1, k, hv, h => by
    unfold mcol
    by_cases e : k = v
    · subst e
      simp only [updN, if_true]
      unfold lof
      have hf : bt (mbit qA qB (mcol qA qB gp k) k k) k = false := mbit_hi (by omega) (fun j hj => by have := mcol_le qA qB gp k j (by omega) hj; omega)
      cases hw : wfind (fun c => ! bt (mbit qA qB (mcol qA qB gp k) k k) c) (k + 1) with
      | none => have := wfind_none.mp hw k (by omega); simp [hf] at this
      | some c => have := (wfind_some hw).1; simp; omega
    · rw [updN, if_neg e]
      exact mcol_le qA qB gp v k (by omega) (by omega)
theorem lof_at {x : Int32} {n c : Nat} (h : wfind (fun c => ! bt x c) c = none) (hb : bt x c = false) (hc : c < n) : nI c = nI (lof x n) := by rw [lof, wfind_at h (by simp [hb]) hc]; rfl
def gidm (gp : Nat → Nat) : Nat → Nat → Nat
  | 0 => gp
  | k + 1 => updN (gidm gp k) k k
theorem gidm_at (gp : Nat → Nat) : ∀ n j, j < n → gidm gp n j = j
  | 0, j, h => absurd h (Nat.not_lt_zero j)
  | n + 1, j, h => by
    unfold gidm
    by_cases e : j = n
    · simp [updN, e]
    · rw [updN, if_neg e]; exact gidm_at gp n j (by omega)
def mgm (g : Nat → Nat) (fr to : Nat) : Nat → Nat → Nat
  | 0 => g
  | w + 1 => updN (mgm g fr to w) w (if mgm g fr to w w = fr then to else mgm g fr to w w)
theorem mgm_ge (g : Nat → Nat) (fr to : Nat) : ∀ {w j : Nat}, w ≤ j → mgm g fr to w j = g j
  | 0, j, _ => rfl
  | w + 1, j, h => by unfold mgm; rw [updN, if_neg (by omega)]; exact mgm_ge g fr to (by omega)
theorem mgm_lt (g : Nat → Nat) (fr to n : Nat) (hg : ∀ j, j < n → g j < n) (ht : to < n) : ∀ w j, j < n → mgm g fr to w j < n
  | 0, j, h => hg j h
  | w + 1, j, h => by
    unfold mgm
    by_cases e : j = w
    · subst e
      simp only [updN, if_true]
      split
      · exact ht
      · exact mgm_lt g fr to n hg ht j j h
    · rw [updN, if_neg e]; exact mgm_lt g fr to n hg ht w j h
def gall (gp pA pB : Nat → Nat) (mw : Nat) : Nat → Nat → Nat
  | 0 => gidm gp mw
  | k + 1 => mgm (gall gp pA pB mw k) (gall gp pA pB mw k (pA k)) (gall gp pA pB mw k (pB k)) mw
def Gjoined (wa : Nat → Int32) (gp pA pB : Nat → Nat) (mw mz i k j m : Nat) : Bool := if wa (16 * i + k) = -1 ∨ wa (16 * j + m) = -1 then decide (i = j) && decide (k = m) else decide (gall gp pA pB mw mz (cN (wa (16 * i + k))) = gall gp pA pB mw mz (cN (wa (16 * j + m))))
def tpo (tn : Nat → Nat) : Nat → Nat
  | 0 => 0
  | i + 1 => if tpo tn i < tn i + 1 then tn i + 1 else tpo tn i
theorem tpo_le (tn : Nat → Nat) (b : Nat) : ∀ k, (∀ i, i < k → tn i < b) → tpo tn k ≤ b
  | 0, _ => Nat.zero_le b
  | k + 1, h => by
    have := tpo_le tn b k (fun i hi => h i (by omega))
    have h2 := h k (by omega)
    unfold tpo
    split <;> omega
def mcoll (len : Nat → Int64) (pk : Nat → Nat) : Nat → Nat × (Nat → Nat)
  | 0 => (0, pk)
  | w + 1 => if 0 ≤ len w then ((mcoll len pk w).1 + 1, updN (mcoll len pk w).2 (mcoll len pk w).1 w) else mcoll len pk w
theorem mcoll_le (len : Nat → Int64) (pk : Nat → Nat) : ∀ w, (mcoll len pk w).1 ≤ w
  | 0 => Nat.le_refl 0
  | w + 1 => by have := mcoll_le len pk w; unfold mcoll; split <;> (try dsimp only) <;> omega
