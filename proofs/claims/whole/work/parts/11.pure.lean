theorem nI_one : nI 1 = 1 := rfl
/-- the first number below n with p -/
def wfind (p : Nat → Bool) : Nat → Option Nat
  | 0 => none
  | n + 1 => match wfind p n with
    | some i => some i
    | none => if p n then some n else none
theorem wfind_none {p : Nat → Bool} : ∀ {n : Nat}, wfind p n = none ↔ ∀ i, i < n → p i = false
  | 0 => ⟨fun _ i h => absurd h (Nat.not_lt_zero i), fun _ => rfl⟩
  | n + 1 => by
    have ih := wfind_none (p := p) (n := n)
    unfold wfind
    cases h : wfind p n with
    | some i =>
      simp only
      constructor
      · intro q; cases q
      · intro q
        have : wfind p n = none := ih.mpr (fun i hi => q i (by omega))
        rw [h] at this; cases this
    | none =>
      simp only
      have h0 := ih.mp h
      cases hp : p n with
      | true => simp; exact ⟨n, by omega, hp⟩
      | false =>
        simp
        intro i hi
        rcases Nat.lt_or_ge i n with q | q
        · exact h0 i q
        · rw [show i = n by omega]; exact hp
theorem wfind_next {p : Nat → Bool} {n : Nat} (h : wfind p n = none) (hp : p n = false) : wfind p (n + 1) = none := by simp [wfind, h, hp]
theorem wfind_at {p : Nat → Bool} {i : Nat} (h : wfind p i = none) (hp : p i = true) : ∀ {n : Nat}, i < n → wfind p n = some i
  | 0, hn => absurd hn (Nat.not_lt_zero i)
  | n + 1, hn => by
    rcases Nat.lt_or_ge i n with q | q
    · simp [wfind, wfind_at h hp q]
    · have e : n = i := by omega
      subst e
      simp [wfind, h, hp]
theorem wfind_some {p : Nat → Bool} : ∀ {n i : Nat}, wfind p n = some i → i < n ∧ p i = true ∧ ∀ j, j < i → p j = false
  | 0, i, h => by cases h
  | n + 1, i, h => by
    unfold wfind at h
    cases hc : wfind p n with
    | some j =>
      rw [hc] at h
      cases h
      obtain ⟨a, b, c⟩ := wfind_some hc
      exact ⟨by omega, b, c⟩
    | none =>
      rw [hc] at h
      simp only at h
      cases hp : p n with
      | false => rw [hp] at h; simp at h
      | true =>
        rw [hp] at h
        simp at h
        subst h
        exact ⟨by omega, hp, wfind_none.mp hc⟩
def oI : Option Nat → Int32
  | none => -1
  | some i => nI i
theorem wI_m1 {p : Nat → Bool} {n : Nat} (hn : n < 2147483648) : oI (wfind p n) = -1 ↔ wfind p n = none := by
  cases h : wfind p n with
  | none => exact ⟨fun _ => rfl, fun _ => rfl⟩
  | some i =>
    have := wfind_some h
    exact ⟨fun q => absurd q (nI_m1 (by omega)), fun q => by cases q⟩
/-- the wire k ends at e -/
def atE (eA eB : Nat → Nat) (e : Nat) : Nat → Bool := fun k => decide (eA k = e) || decide (eB k = e)
/-- the wire i ends at the connector c -/
def eAt (eA eB : Nat → Nat) (i c : Nat) : Bool := decide (eA i / 16 = c) || decide (eB i / 16 = c)
/-- the colours that are taken, of the wires below k -/
def tk (eA eB col : Nat → Nat) (a b : Nat) : Nat → Int32
  | 0 => nI 0
  | k + 1 => if eAt eA eB k a = true ∨ eAt eA eB k b = true then tk eA eB col a b k ||| (nI 1 <<< (nI (col k) &&& 31)) else tk eA eB col a b k
def frc (x : Int32) : Nat := (wfind (fun c => ! bt x c) 24).getD 24
/-- the least area that will do -/
def ltw (ar : Nat → Int64) (p : Nat → Bool) : Nat → Int32 × Int64
  | 0 => (-1, 1000001)
  | k + 1 => if ar k < (ltw ar p k).2 ∧ p k = true then (nI k, ar k) else ltw ar p k
def wdo (ar ma mo : Nat → Int64) (x d cut : Int64) (r : Nat) : Bool := !(decide (ar r ≤ 0)) && !(decide (ma r < x)) && !(decide (d * 1000000000 < x * mo r * cut))
theorem frc_24 {x : Int32} {f : Nat} (h : wfind (fun c => ! bt x c) f = none) (e : f = 24) : nI f = nI (frc x) := by subst e; rw [frc, h]; rfl
theorem frc_at {x : Int32} {f : Nat} (h : wfind (fun c => ! bt x c) f = none) (hb : bt x f = false) (hf : f < 24) : nI f = nI (frc x) := by rw [frc, wfind_at h (by simp [hb]) hf]; rfl
