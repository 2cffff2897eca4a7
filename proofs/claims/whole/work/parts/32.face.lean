/-! words of the class's own face -/
def inR (x : Int32) (n : Nat) : Prop := ∃ j, j < n ∧ x = nI j
theorem inR_no {x : Int32} {n : Nat} (hn : n < 2147483648) (h : x < 0 ∨ ¬ x < nI n) : ¬ inR x n := by
  rintro ⟨j, hj, rfl⟩
  rcases h with h | h
  · exact nI_pos (by omega) h
  · exact h (nI_lt hj (by omega))
theorem inR_yes {x : Int32} {n : Nat} (hn : n < 2147483648) (h0 : ¬ x < 0) (h : x < nI n) : inR x n := by
  obtain ⟨j, hj, rfl⟩ := nI_of h0
  exact ⟨j, (nI_ltI (by omega) (by omega)).mp h, rfl⟩
theorem inR_nI {j n : Nat} (hj : j < 2147483648) (hn : n < 2147483648) : inR (nI j) n ↔ j < n := by
  constructor
  · rintro ⟨i, hi, e⟩
    have := (nI_eq (by omega) (by omega)).mp e
    omega
  · exact fun h => ⟨j, h, rfl⟩
def inC (cav : Nat → Nat) (nd : Nat) (c k : Int32) : Prop := ∃ j, j < nd ∧ c = nI j ∧ inR k (cav j)
def wiN (x lo hi : Int64) : Prop := ¬ x < lo ∧ x ≤ hi
def cN (x : Int32) : Nat := x.toNatClampNeg
theorem cN_nI {n : Nat} (h : n < 2147483648) : cN (nI n) = n := nI_clamp (by omega)
def FaddNode (cav : Nat → Nat) (wy : Nat → Int64) (nd k : Nat) : Int32 × (Nat → Nat) × (Nat → Int64) × Nat := if nd < 16 then (nI nd, updN cav nd k, sw (swl wy nd nd) nd nd 0, nd + 1) else (-1, cav, wy, nd)
def lnN (x : Int64) : Nat := x.toInt.toNat
theorem lnN_lN {n : Nat} (h : n < 2147483648) : lnN (lN n) = n := by unfold lnN; rw [lN_toInt (by omega)]; rfl
theorem lN_of {x lo hi : Int64} {a b : Nat} (hlo : lo = lN a) (hhi : hi = lN b) (hb : b < 2147483648) (ha : a ≤ b) (h : wiN x lo hi) : ∃ n, a ≤ n ∧ n ≤ b ∧ x = lN n := by
  subst hlo; subst hhi
  obtain ⟨h1, h2⟩ := h
  have hx0 : ¬ x < 0 := by
    intro q
    refine h1 (Int64.lt_iff_toInt_lt.mpr ?_)
    have := Int64.lt_iff_toInt_lt.mp q
    have e0 : (0 : Int64).toInt = 0 := by decide
    rw [e0] at this
    rw [lN_toInt (by omega)]
    omega
  obtain ⟨n, hn, rfl⟩ := pk_lOf hx0
  refine ⟨n, ?_, ?_, rfl⟩
  · rcases Nat.lt_or_ge n a with q | q
    · exact absurd ((pk_lLT (by omega) (by omega)).mpr q) h1
    · exact q
  · exact (pk_lLE (by omega) (by omega)).mp h2
def Fbundle (fN oN ln : Nat → Nat) (wy : Nat → Int64) (nd bd a b len : Nat) : Int32 × (Nat → Nat) × (Nat → Nat) × (Nat → Nat) × (Nat → Int64) × Nat :=
  if wy (a * 16 + b) = -1 then (nI bd, updN fN bd a, updN oN bd b, updN ln bd len, jall (tb wy a nd) (tb wy b nd) a b (lN len) nd wy nd, bd + 1) else (-1, fN, oN, ln, wy, bd)
def Fwire (eA eB col : Nat → Nat) (lo dr : Nat → Int64) (wn x y : Nat) : Int32 × (Nat → Nat) × (Nat → Nat) × (Nat → Nat) × (Nat → Int64) × (Nat → Int64) × Nat :=
  if wn < 24 ∧ x ≠ y ∧ wfind (atE eA eB x) wn = none ∧ wfind (atE eA eB y) wn = none then (nI wn, updN eA wn x, updN eB wn y, updN col wn (frc (tk eA eB col (x / 16) (y / 16) wn)), vp_updL lo wn 0, vp_updL dr wn 1000000, wn + 1) else (-1, eA, eB, col, lo, dr, wn)
def cutL (wy : Nat → Int64) (eA eB : Nat → Nat) (sa sb : Int64) (i : Nat) : Int64 := if wy (eA i / 16 * 16 + eB i / 16) = -1 then -1 else wy (eA i / 16 * 16 + eB i / 16) + (wy (eA i / 16 * 16 + eB i / 16) * sa + sb - 1) / sb
def Fgauge (ar ma mo lo dr : Nat → Int64) (cut : Int64) (w : Nat) : Int32 := if cut = -1 then -1 else (ltw ar (wdo ar ma mo (lo w) (dr w) cut) 10).1
def Fsplice (pa : Nat → Int32) (gr : Nat → Nat) (sc x y : Nat) : Int32 × (Nat → Int32) × (Nat → Nat) × Nat := if x ≠ y ∧ sc < 20 ∧ bt (pa x) y = false then (nI (sc + 1), pput pa x y, mg gr (gr x) (gr y) 24, sc + 1) else (-1, pa, gr, sc)
def Fjoined (eA eB gr : Nat → Nat) (wn x y : Nat) : Bool := if x = y then true else match wfind (atE eA eB x) wn, wfind (atE eA eB y) wn with
  | some p, some q => decide (gr p = gr q)
  | _, _ => false
def Ftold (eA eB : Nat → Nat) (tw ow : Nat → Int32) (vc wn : Nat) (k : Int32) (side : Nat) : Int32 := if k < 0 ∨ vc = 0 then -1 else match wfind (koff (fun i => von tw ow i vc) (cN k)) wn with
  | none => -1
  | some w => if side = 0 then nI (eA w) else nI (eB w)
