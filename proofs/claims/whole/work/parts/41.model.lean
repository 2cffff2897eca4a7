/-! words of the reference -/
def inB (x : Int32) (n : Nat) : Bool := !(decide (x < 0)) && !(decide (nI n ≤ x))
theorem inB_iff {x : Int32} {n : Nat} (hn : n < 2147483648) : inB x n = true ↔ inR x n := by
  unfold inB
  constructor
  · intro h
    simp only [Bool.and_eq_true, Bool.not_eq_true', decide_eq_false_iff_not] at h
    exact inR_yes hn h.1 (by rw [← Int32.not_le]; exact h.2)
  · intro h
    simp only [Bool.and_eq_true, Bool.not_eq_true', decide_eq_false_iff_not]
    obtain ⟨j, hj, rfl⟩ := h
    exact ⟨nI_pos (by omega), nI_ge hj (by omega)⟩
theorem inB_t {x : Int32} {n : Nat} (hn : n < 2147483648) (h : inB x n = true) : inR x n := (inB_iff hn).mp h
theorem inB_f {x : Int32} {n : Nat} (hn : n < 2147483648) (h : inB x n = false) : ¬ inR x n := fun q => by rw [(inB_iff hn).mpr q] at h; cases h
def wiB (x lo hi : Int64) : Bool := !(decide (x < lo)) && !(decide (hi < x))
theorem wiB_t {x lo hi : Int64} (h : wiB x lo hi = true) : wiN x lo hi := by
  unfold wiB at h
  simp only [Bool.and_eq_true, Bool.not_eq_true', decide_eq_false_iff_not] at h
  exact ⟨h.1, Int64.not_lt.mp h.2⟩
theorem wiB_f {x lo hi : Int64} (h : wiB x lo hi = false) : ¬ wiN x lo hi := fun q => by
  have : wiB x lo hi = true := by
    unfold wiB
    simp only [Bool.and_eq_true, Bool.not_eq_true', decide_eq_false_iff_not]
    exact ⟨q.1, Int64.not_lt.mpr q.2⟩
  rw [this] at h; cases h
def icB (mc : Nat → Nat) (mn : Nat) (c k : Int32) : Bool := inB c mn && inB k (mc (cN c))
theorem icB_t {mc : Nat → Nat} {mn : Nat} {c k : Int32} (hn : mn ≤ 16) (hm : ∀ j, j < mn → mc j ≤ 16) (h : icB mc mn c k = true) : inC mc mn c k := by
  unfold icB at h
  simp only [Bool.and_eq_true] at h
  obtain ⟨j, hj, rfl⟩ := inB_t (by omega) h.1
  have h2 := hm j hj
  rw [cN_nI (by omega)] at h
  exact ⟨j, hj, rfl, inB_t (by omega) h.2⟩
theorem icB_f {mc : Nat → Nat} {mn : Nat} {c k : Int32} (hn : mn ≤ 16) (hm : ∀ j, j < mn → mc j ≤ 16) (h : icB mc mn c k = false) : ¬ inC mc mn c k := by
  rintro ⟨j, hj, rfl, h2⟩
  have h3 := hm j hj
  unfold icB at h
  rw [cN_nI (by omega), (inB_iff (by omega)).mpr ⟨j, hj, rfl⟩, (inB_iff (by omega)).mpr h2] at h
  cases h
def GaddNode (mc : Nat → Nat) (mn k : Nat) : Int32 × (Nat → Nat) × Nat := if mn = 16 then (-1, mc, mn) else (nI mn, updN mc mn k, mn + 1)
def lenO (fa : Nat → Int64) (qA qB : Nat → Nat) (sa sb : Int64) (w : Nat) : Int64 := if 0 ≤ fa (16 * (qA w / 16) + qB w / 16) then fa (16 * (qA w / 16) + qB w / 16) + (fa (16 * (qA w / 16) + qB w / 16) * sa + sb - 1) / sb else -1
def Gwire (qA qB : Nat → Nat) (mdr : Nat → Int64) (wa : Nat → Int32) (mw x y : Nat) : Int32 × (Nat → Nat) × (Nat → Nat) × (Nat → Int64) × (Nat → Int32) × Nat :=
  if x ≠ y ∧ wa x = -1 ∧ wa y = -1 ∧ mw ≠ 24 then (nI mw, updN qA mw x, updN qB mw y, vp_updL mdr mw 1000000, upd (upd wa x (nI mw)) y (nI mw), mw + 1) else (-1, qA, qB, mdr, wa, mw)
