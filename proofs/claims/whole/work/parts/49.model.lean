def fai : Nat → Nat → Int64
  | 0 => fun _ => 0
  | k + 1 => vp_updL (fai k) k (if k / 16 = k % 16 then 0 else -1)
/-- the longest wire that isn't packed, of several the lowest: over the packed ones -/
def mlg (mr : Nat → Int32) (pk : Nat → Nat) (len : Nat → Int64) : Nat → Option Nat
  | 0 => none
  | k + 1 => match mlg mr pk len k with
    | none => if mr (pk k) = -1 then some (pk k) else none
    | some w => if mr (pk k) = -1 ∧ len w < len (pk k) then some (pk k) else some w
theorem mlg_in {mr : Nat → Int32} {pk : Nat → Nat} {len : Nat → Int64} : ∀ {k w : Nat}, mlg mr pk len k = some w → ∃ j, j < k ∧ w = pk j
  | 0, w, h => by cases h
  | k + 1, w, h => by
    unfold mlg at h
    cases hc : mlg mr pk len k with
    | none =>
      rw [hc] at h
      simp only at h
      split at h
      · cases h; exact ⟨k, by omega, rfl⟩
      · cases h
    | some v =>
      obtain ⟨j, hj, e⟩ := mlg_in hc
      rw [hc] at h
      simp only at h
      split at h
      · cases h; exact ⟨k, by omega, rfl⟩
      · cases h; exact ⟨j, by omega, e⟩
/-- one turn of the reference's packing: (reels, used, reels of the wires) -/
def mpl1 (lim : Int64) (pk : Nat → Nat) (len : Nat → Int64) (my : Nat) (s : Nat × (Nat → Int64) × (Nat → Int32)) : Nat × (Nat → Int64) × (Nat → Int32) :=
  match mlg s.2.2 pk len my with
  | none => s
  | some w => match wfind (fun r => !(decide (lim < s.2.1 r + len w))) s.1 with
    | some r => (s.1, vp_updL s.2.1 r (s.2.1 r + len w), upd s.2.2 w (nI r))
    | none => (s.1 + 1, vp_updL (vp_updL s.2.1 s.1 0) s.1 (vp_updL s.2.1 s.1 0 s.1 + len w), upd s.2.2 w (nI s.1))
def mpl (lim : Int64) (pk : Nat → Nat) (len : Nat → Int64) (my : Nat) (s0 : Nat × (Nat → Int64) × (Nat → Int32)) : Nat → Nat × (Nat → Int64) × (Nat → Int32)
  | 0 => s0
  | t + 1 => mpl1 lim pk len my (mpl lim pk len my s0 t)
theorem mpl1_le {lim : Int64} {pk : Nat → Nat} {len : Nat → Int64} {my : Nat} {s : Nat × (Nat → Int64) × (Nat → Int32)} : (mpl1 lim pk len my s).1 ≤ s.1 + 1 := by
  unfold mpl1
  split
  · omega
  · split <;> dsimp only <;> omega
theorem mpl_le {lim : Int64} {pk : Nat → Nat} {len : Nat → Int64} {my : Nat} {s0 : Nat × (Nat → Int64) × (Nat → Int32)} (h0 : s0.1 = 0) : ∀ t, (mpl lim pk len my s0 t).1 ≤ t
  | 0 => by show s0.1 ≤ 0; omega
  | t + 1 => by
    have h1 := mpl_le (lim := lim) (pk := pk) (len := len) (my := my) h0 t
    have h2 := mpl1_le (lim := lim) (pk := pk) (len := len) (my := my) (s := mpl lim pk len my s0 t)
    show (mpl1 lim pk len my (mpl lim pk len my s0 t)).1 ≤ t + 1
    omega
