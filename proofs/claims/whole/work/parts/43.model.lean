def mtb (fa : Nat → Int64) (a : Nat) : Nat → Int32
  | 0 => nI 0
  | p + 1 => if fa (16 * p + a) < 0 then mtb fa a p else mtb fa a p ||| (nI 1 <<< (nI p &&& 31))
def msw (fa : Nat → Int64) (i j : Nat) (v : Int64) : Nat → Int64 := vp_updL (vp_updL fa (16 * i + j) v) (16 * j + i) v
def mrow (A B : Int32) (a b : Nat) (len : Int64) (i : Nat) (fa : Nat → Int64) : Nat → Nat → Int64
  | 0 => fa
  | j + 1 => if bt A i = true ∧ bt B j = true then msw (mrow A B a b len i fa j) i j (mrow A B a b len i fa j (16 * i + a) + len + mrow A B a b len i fa j (16 * b + j)) else mrow A B a b len i fa j
def mall (A B : Int32) (a b : Nat) (len : Int64) (n : Nat) (fa : Nat → Int64) : Nat → Nat → Int64
  | 0 => fa
  | i + 1 => mrow A B a b len i (mall A B a b len n fa i) n
def Gbundle (mA mB : Nat → Nat) (mL fa : Nat → Int64) (mn mb a b : Nat) (len : Int64) : Int32 × (Nat → Nat) × (Nat → Nat) × (Nat → Int64) × (Nat → Int64) × Nat :=
  if fa (16 * a + b) < 0 then (nI mb, updN mA mb a, updN mB mb b, vp_updL mL mb len, mall (mtb fa a mn) (mtb fa b mn) a b len mn fa mn, mb + 1) else (-1, mA, mB, mL, fa, mb)
theorem hb_t {x : Int32} {n : Nat} (hn : n < 32) (h : ¬ (x >>> (nI n &&& 31)) &&& nI 1 = 0) : bt x n = true := by
  cases e : bt x n
  · exact absurd ((hb_iff hn).mpr e) h
  · rfl
def mdo (td : Nat → Int32) (mam moh : Nat → Int64) (x d len : Int64) (r : Nat) : Bool := !(decide (td r = 0)) && !(decide (mam r < x)) && !(decide (d * 1000000000 < x * moh r * len))
def mgg (p : Nat → Bool) (mar : Nat → Int64) : Nat → Option Nat
  | 0 => none
  | r + 1 => match mgg p mar r with
    | none => if p r = true then some r else none
    | some b => if p r = true ∧ mar r < mar b then some r else some b
theorem mgg_lt {p : Nat → Bool} {mar : Nat → Int64} : ∀ {i j : Nat}, mgg p mar i = some j → j < i
  | 0, j, h => by cases h
  | i + 1, j, h => by
    unfold mgg at h
    cases hc : mgg p mar i with
    | none =>
      rw [hc] at h
      simp only at h
      split at h
      · cases h; omega
      · cases h
    | some k =>
      have := mgg_lt hc
      rw [hc] at h
      simp only at h
      split at h
      · cases h; omega
      · cases h; omega
def mon (mk : Nat → Nat) (w : Nat) : Nat → Bool
  | 0 => true
  | k + 1 => if mk (24 * k + w) = 0 then mon mk w k else decide (mk (24 * k + w) = 1)
