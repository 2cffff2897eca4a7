def coll (cut : Nat → Int64) (wp : Nat → Nat) (cu : Nat → Int64) : Nat → Nat × (Nat → Nat) × (Nat → Int64)
  | 0 => (0, wp, cu)
  | w + 1 => if cut w = -1 then coll cut wp cu w else ((coll cut wp cu w).1 + 1, updN (coll cut wp cu w).2.1 (coll cut wp cu w).1 w, vp_updL (coll cut wp cu w).2.2 (coll cut wp cu w).1 (cut w))
theorem coll_le (cut : Nat → Int64) (wp : Nat → Nat) (cu : Nat → Int64) : ∀ w, (coll cut wp cu w).1 ≤ w
  | 0 => Nat.le_refl 0
  | w + 1 => by have := coll_le cut wp cu w; unfold coll; split <;> (try dsimp only) <;> omega
theorem coll_wp (cut : Nat → Int64) (wp : Nat → Nat) (cu : Nat → Int64) : ∀ w k, k < (coll cut wp cu w).1 → (coll cut wp cu w).2.1 k < w
  | 0, k, h => absurd h (Nat.not_lt_zero k)
  | w + 1, k, h => by
    unfold coll at h ⊢
    split at h
    · rename_i hc
      rw [if_pos hc]
      exact Nat.lt_succ_of_lt (coll_wp cut wp cu w k h)
    · rename_i hc
      rw [if_neg hc]
      dsimp only at h ⊢
      by_cases e : k = (coll cut wp cu w).1
      · simp [updN, e]
      · rw [updN, if_neg e]
        exact Nat.lt_succ_of_lt (coll_wp cut wp cu w k (by omega))
/-- the class's reel: (answer, reels of the wires, wires of the pieces, cuts, filled, trial, pieces, fewest) -/
def Freel (cut : Nat → Int64) (wn : Nat) (len : Int64) (rq : Nat → Int32) (wp : Nat → Nat) (cu fi : Nat → Int64) (tr : Nat → Nat) (fw : Nat) : Int32 × (Nat → Int32) × (Nat → Nat) × (Nat → Int64) × (Nat → Int64) × (Nat → Nat) × Nat × Nat :=
  if wfind (fun i => decide (len < (coll cut wp cu wn).2.2 i)) (coll cut wp cu wn).1 = none then
    if (coll cut wp cu wn).1 ≤ 8 then
      (nI (pfS (coll cut wp cu wn).1 len (coll cut wp cu wn).2.2 (coll cut wp cu wn).2.1 (coll cut wp cu wn).1 0 0 (fllL fi 0 24) (tr, (coll cut wp cu wn).1 + 1, fll rq (-1) 24)).2.1,
       (pfS (coll cut wp cu wn).1 len (coll cut wp cu wn).2.2 (coll cut wp cu wn).2.1 (coll cut wp cu wn).1 0 0 (fllL fi 0 24) (tr, (coll cut wp cu wn).1 + 1, fll rq (-1) 24)).2.2,
       (coll cut wp cu wn).2.1, (coll cut wp cu wn).2.2, fllL fi 0 24,
       (pfS (coll cut wp cu wn).1 len (coll cut wp cu wn).2.2 (coll cut wp cu wn).2.1 (coll cut wp cu wn).1 0 0 (fllL fi 0 24) (tr, (coll cut wp cu wn).1 + 1, fll rq (-1) 24)).1,
       (coll cut wp cu wn).1,
       (pfS (coll cut wp cu wn).1 len (coll cut wp cu wn).2.2 (coll cut wp cu wn).2.1 (coll cut wp cu wn).1 0 0 (fllL fi 0 24) (tr, (coll cut wp cu wn).1 + 1, fll rq (-1) 24)).2.1)
    else
      (nI (plf len (coll cut wp cu wn).2.1 (coll cut wp cu wn).2.2 (coll cut wp cu wn).1 (0, fll rq (-1) 24, fllL fi 0 24) (coll cut wp cu wn).1).1,
       (plf len (coll cut wp cu wn).2.1 (coll cut wp cu wn).2.2 (coll cut wp cu wn).1 (0, fll rq (-1) 24, fllL fi 0 24) (coll cut wp cu wn).1).2.1,
       (coll cut wp cu wn).2.1, (coll cut wp cu wn).2.2,
       (plf len (coll cut wp cu wn).2.1 (coll cut wp cu wn).2.2 (coll cut wp cu wn).1 (0, fll rq (-1) 24, fllL fi 0 24) (coll cut wp cu wn).1).2.2,
       tr, (coll cut wp cu wn).1, fw)
  else (-1, fll rq (-1) 24, (coll cut wp cu wn).2.1, (coll cut wp cu wn).2.2, fllL fi 0 24, tr, (coll cut wp cu wn).1, fw)
