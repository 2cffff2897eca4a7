def ffs {α : Type} (g : Nat → Option α) : Nat → Nat → Option α
  | 0, _ => none
  | f + 1, r => match g r with
    | some a => some a
    | none => ffs g f (r + 1)
theorem ffs_none {α : Type} {g : Nat → Option α} : ∀ {f r : Nat}, (∀ j, r ≤ j → g j = none) → ffs g f r = none
  | 0, _, _ => rfl
  | f + 1, r, h => by
    have h1 := ffs_none (f := f) (r := r + 1) (fun j hj => h j (by omega))
    simp only [ffs, h r (Nat.le_refl r), h1]
theorem ffs_step {α : Type} {g : Nat → Option α} {T r : Nat} (hr : r ≤ T) (h : g r = none) : ffs g (T + 1 - r) r = ffs g (T + 1 - (r + 1)) (r + 1) := by
  rw [show T + 1 - r = (T + 1 - (r + 1)) + 1 by omega]
  simp only [ffs, h]
theorem ffs_hit {α : Type} {g : Nat → Option α} {T r : Nat} {a : α} (hr : r ≤ T) (h : g r = some a) : ffs g (T + 1 - r) r = some a := by
  rw [show T + 1 - r = (T + 1 - (r + 1)) + 1 by omega]
  simp only [ffs, h]
/-- the reference's search: the first way, in order, to put the pieces from k on n reels -/
def ff (n : Nat) (lim : Int64) (len : Nat → Int64) : Nat → Nat → (Nat → Int64) → (Nat → Nat) → Option (Nat → Nat)
  | 0, _, _, tn => some tn
  | d + 1, k, b, tn => ffs (fun r => if r < n ∧ b r + len k ≤ lim then ff n lim len d (k + 1) (vp_updL b r (b r + len k)) (updN tn k r) else none) (tpo tn k + 1) 0
def ffg (n : Nat) (lim : Int64) (len : Nat → Int64) (d k : Nat) (b : Nat → Int64) (tn : Nat → Nat) (r : Nat) : Option (Nat → Nat) := if r < n ∧ b r + len k ≤ lim then ff n lim len d (k + 1) (vp_updL b r (b r + len k)) (updN tn k r) else none
theorem ff_succ (n : Nat) (lim : Int64) (len : Nat → Int64) (d k : Nat) (b : Nat → Int64) (tn : Nat → Nat) : ff n lim len (d + 1) k b tn = ffs (ffg n lim len d k b tn) (tpo tn k + 1 - 0) 0 := rfl
def rI : Nat → Int32
  | 0 => -1
  | q + 1 => nI q
def bB (b : Nat → Int64) (x : Int64) : Nat → Nat → Int64
  | 0 => b
  | q + 1 => vp_updL b q (b q + x)
theorem upd_at (f : Nat → Int32) (i : Nat) (x : Int32) : upd f i x i = x := by simp [upd]
theorem upd_ne (f : Nat → Int32) {i j : Nat} (x : Int32) (h : ¬ j = i) : upd f i x j = f j := by simp [upd, h]
theorem nI_dn (k : Nat) : nI (k + 1) + (-1) = nI k := by
  rw [← nI_add k 1]
  have : nI 1 = 1 := rfl
  rw [this, Int32.add_assoc]
  have : (1 : Int32) + (-1) = 0 := by decide
  rw [this, Int32.add_zero]
