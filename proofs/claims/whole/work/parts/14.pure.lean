section GXL
variable {X : gxT} {cells slots : Nat} {ws : va_W} {pc : Nat} {lv : List (Nat × Value)} {st : List Value} {cc : ByteArray} {own : String} {Ts : List Cond} {tys : List (ClassId × FieldType)} {N : Nat} {Rm : Room}
theorem g_alen (C : gx_C X cc own Ts tys N Rm) (q0 t0 : Nat) {cA : ClassId} {a n : Nat} {x : vp_A} {ty : FieldType} (ha : ws[q0]? = some (a, .inl (cA, x))) (ht : tys[t0]? = some (cA, ty)) (hn : x.1 = n) (hdg : decode cc pc = .ok (.arraylength, 1)) (pc' : Nat) (hp : pc + 1 = pc') (k : gx X cells slots ws pc' lv (.int (nI n) :: st)) : gx X cells slots ws pc lv (.ref a :: st) := by
  obtain ⟨p, l, e, R, s, m, args, below, meth, c, A, D, nL, Q⟩ := X
  subst hp
  subst hn
  exact fun H locs ls hP hD hS hl => va_alen C.1 C.2.1 C.2.2.2.2.2.1 hP q0 t0 ha ht rfl hdg (k H locs ls hP hD hS hl)
end GXL
def fll (f : Nat → Int32) (v : Int32) : Nat → Nat → Int32
  | 0 => f
  | k + 1 => upd (fll f v k) k v
def fllL (f : Nat → Int64) (v : Int64) : Nat → Nat → Int64
  | 0 => f
  | k + 1 => vp_updL (fllL f v k) k v
/-- room on the reel r for the piece p -/
def rmr (rl : Int64) (fi cu : Nat → Int64) (p r : Nat) : Bool := !(decide (rl < fi r + cu p))
/-- the longest piece that isn't packed, of several the first -/
def lgl (rq : Nat → Int32) (wp : Nat → Nat) (cu : Nat → Int64) : Nat → Option Nat
  | 0 => none
  | i + 1 => match lgl rq wp cu i with
    | none => if rq (wp i) = -1 then some i else none
    | some j => if rq (wp i) = -1 ∧ cu j < cu i then some i else some j
theorem lgl_lt {rq : Nat → Int32} {wp : Nat → Nat} {cu : Nat → Int64} : ∀ {i j : Nat}, lgl rq wp cu i = some j → j < i
  | 0, j, h => by cases h
  | i + 1, j, h => by
    unfold lgl at h
    cases hc : lgl rq wp cu i with
    | none =>
      rw [hc] at h
      simp only at h
      split at h
      · cases h; omega
      · cases h
    | some k =>
      have := lgl_lt hc
      rw [hc] at h
      simp only at h
      split at h
      · cases h; omega
      · cases h; omega
/-- one step of the packing of the longest first -/
def plf1 (rl : Int64) (wp : Nat → Nat) (cu : Nat → Int64) (np : Nat) (s : Nat × (Nat → Int32) × (Nat → Int64)) : Option (Nat × (Nat → Int32) × (Nat → Int64)) :=
  match lgl s.2.1 wp cu np with
  | none => none
  | some p => match wfind (rmr rl s.2.2 cu p) 24 with
    | none => none
    | some r => some (Nat.max s.1 (r + 1), upd s.2.1 (wp p) (nI r), vp_updL s.2.2 r (s.2.2 r + cu p))
def plf (rl : Int64) (wp : Nat → Nat) (cu : Nat → Int64) (np : Nat) (s0 : Nat × (Nat → Int32) × (Nat → Int64)) : Nat → Nat × (Nat → Int32) × (Nat → Int64)
  | 0 => s0
  | t + 1 => (plf1 rl wp cu np (plf rl wp cu np s0 t)).getD (plf rl wp cu np s0 t)
theorem plf_stuck {rl : Int64} {wp : Nat → Nat} {cu : Nat → Int64} {np : Nat} {s0 : Nat × (Nat → Int32) × (Nat → Int64)} {t : Nat} (h : plf1 rl wp cu np (plf rl wp cu np s0 t) = none) : ∀ k, plf rl wp cu np s0 (t + k) = plf rl wp cu np s0 t
  | 0 => rfl
  | k + 1 => by
    have ih := plf_stuck h k
    show (plf1 rl wp cu np (plf rl wp cu np s0 (t + k))).getD (plf rl wp cu np s0 (t + k)) = _
    rw [ih, h]
    rfl
def kt (rq : Nat → Int32) (wp tr : Nat → Nat) : Nat → Nat → Int32
  | 0 => rq
  | i + 1 => upd (kt rq wp tr i) (wp i) (nI (tr i))
/-- the search: the state is (trial, fewest, reels of the wires) -/
abbrev psT : Type := (Nat → Nat) × Nat × (Nat → Int32)
def ploop (f : Nat → psT → psT) : Nat → psT → psT
  | 0, s => s
  | k + 1, s => f k (ploop f k s)
def pfS (np : Nat) (rl : Int64) (cu : Nat → Int64) (wp : Nat → Nat) : Nat → Nat → Nat → (Nat → Int64) → psT → psT
  | 0, _, used, _, s => if s.2.1 ≤ used then s else (s.1, used, kt s.2.2 wp s.1 np)
  | d + 1, piece, used, fi, s => if s.2.1 ≤ used then s else
      ploop (fun r s => if rmr rl fi cu piece r = true then pfS np rl cu wp d (piece + 1) (Nat.max used (r + 1)) (vp_updL fi r (fi r + cu piece)) (updN s.1 piece r, s.2.1, s.2.2) else s) (used + 1) s
def poS (np : Nat) (rl : Int64) (cu : Nat → Int64) (wp : Nat → Nat) (d piece used : Nat) (fi : Nat → Int64) (r : Nat) (s : psT) : psT := if rmr rl fi cu piece r = true then pfS np rl cu wp d (piece + 1) (Nat.max used (r + 1)) (vp_updL fi r (fi r + cu piece)) (updN s.1 piece r, s.2.1, s.2.2) else s
theorem pfS_succ (np : Nat) (rl : Int64) (cu : Nat → Int64) (wp : Nat → Nat) (d piece used : Nat) (fi : Nat → Int64) (s : psT) : pfS np rl cu wp (d + 1) piece used fi s = if s.2.1 ≤ used then s else ploop (poS np rl cu wp d piece used fi) (used + 1) s := rfl
theorem updL_back (f : Nat → Int64) (r : Nat) (x : Int64) : vp_updL (vp_updL f r (f r + x)) r (vp_updL f r (f r + x) r - x) = f := by
  funext j
  by_cases h : j = r
  · subst h
    simp [vp_updL, Int64.add_sub_cancel]
  · simp [vp_updL, h]
/-- how many reels are ever wanted: the search never says more than it began with -/
theorem pfS_fw (np : Nat) (rl : Int64) (cu : Nat → Int64) (wp : Nat → Nat) : ∀ (d piece used : Nat) (fi : Nat → Int64) (s : psT), (pfS np rl cu wp d piece used fi s).2.1 ≤ s.2.1
  | 0, piece, used, fi, s => by
    unfold pfS
    split
    · exact Nat.le_refl _
    · dsimp only; omega
  | d + 1, piece, used, fi, s => by
    rw [pfS_succ]
    split
    · exact Nat.le_refl _
    · have h : ∀ k, (ploop (poS np rl cu wp d piece used fi) k s).2.1 ≤ s.2.1 := by
        intro k
        induction k with
        | zero => exact Nat.le_refl _
        | succ k ih =>
          show (poS np rl cu wp d piece used fi k (ploop (poS np rl cu wp d piece used fi) k s)).2.1 ≤ _
          unfold poS
          split
          · exact Nat.le_trans (pfS_fw np rl cu wp d _ _ _ _) ih
          · exact ih
      exact h _
theorem poS_fw (np : Nat) (rl : Int64) (cu : Nat → Int64) (wp : Nat → Nat) (d piece used : Nat) (fi : Nat → Int64) (r : Nat) (s : psT) : (poS np rl cu wp d piece used fi r s).2.1 ≤ s.2.1 := by
  unfold poS
  split
  · exact pfS_fw np rl cu wp d _ _ _ _
  · exact Nat.le_refl _
