/-! pure words: arrays of naturals, the ways -/
def updN (f : Nat → Nat) (k v : Nat) : Nat → Nat := fun j => if j = k then v else f j
theorem upd_nI (f : Nat → Nat) (k v : Nat) : upd (fun j => nI (f j)) k (nI v) = fun j => nI (updN f k v j) := by
  funext j
  by_cases h : j = k
  · simp [upd, updN, h]
  · simp [upd, updN, h]
theorem nI_dec (a : Nat) (h : 1 ≤ a) : nI a + Int32.ofInt (-1) = nI (a - 1) := by
  obtain ⟨b, rfl⟩ : ∃ b, a = b + 1 := ⟨a - 1, by omega⟩
  rw [show b + 1 - 1 = b by omega]
  exact pk_m1 b
/-- a way is set, both ways round -/
def sw (wy : Nat → Int64) (a b : Nat) (w : Int64) : Nat → Int64 := vp_updL (vp_updL wy (a * 16 + b) w) (b * 16 + a) w
/-- a new node has no way to those ahead of it -/
def swl (wy : Nat → Int64) (n : Nat) : Nat → Nat → Int64
  | 0 => wy
  | k + 1 => sw (swl wy n k) n k (-1)
