theorem lN_div {a b : Nat} (ha : a < 2 ^ 31) (hb : b < 2 ^ 31) : lN a / lN b = lN (a / b) := by
  apply Int64.toInt_inj.mp
  have hq : a / b < 2 ^ 31 := Nat.lt_of_le_of_lt (Nat.div_le_self a b) ha
  rw [Int64.toInt_div, lN_toInt ha, lN_toInt hb, lN_toInt hq]
  rw [← Int.ofNat_tdiv]
  generalize a / b = c at hq ⊢
  apply Int.bmod_eq_of_le <;> omega
theorem lN_rem {a b : Nat} (ha : a < 2 ^ 31) (hb : b < 2 ^ 31) : lN a - lN a / lN b * lN b = lN (a % b) := by
  rw [lN_div ha hb, lN_mul, lN_sub (Nat.div_mul_le_self a b)]
  congr 1
  have := Nat.div_add_mod a b
  rw [Nat.mul_comm] at this
  omega
/-- the digits from the place r on -/
def dl (v : Nat) : Nat → List Nat
  | 0 => []
  | r + 1 => (48 + v / 10 ^ r % 10) :: dl v r
theorem dl_step (v : Nat) : ∀ r, dl v (r + 1) = dl (v / 10) r ++ [48 + v % 10]
  | 0 => by simp [dl]
  | r + 1 => by
    have ih := dl_step v r
    rw [show dl v (r + 1 + 1) = (48 + v / 10 ^ (r + 1) % 10) :: dl v (r + 1) from rfl, ih, show dl (v / 10) (r + 1) = (48 + v / 10 / 10 ^ r % 10) :: dl (v / 10) r from rfl, Nat.div_div_eq_div_mul, Nat.pow_succ, Nat.mul_comm 10]
    rfl
theorem dl_dgl : ∀ (k v : Nat), v < 10 ^ (k + 1) → (k = 0 ∨ 10 ^ k ≤ v) → dl v (k + 1) = dgl v
  | 0, v, h, _ => by rw [dgl_lt (by omega)]; simp [dl]; omega
  | k + 1, v, h, h2 => by
    have h3 : 10 ^ (k + 1) ≤ v := by rcases h2 with q | q; omega; exact q
    have h4 : 10 ≤ v := Nat.le_trans (by rw [Nat.pow_succ]; have := Nat.one_le_pow k 10 (by omega); omega) h3
    rw [dl_step, dl_dgl k (v / 10) (by rw [Nat.pow_succ] at h; omega) (Or.inr (by rw [Nat.pow_succ] at h3; omega)), ← dgl_ge h4]
def sL : Nat → Int64
  | 0 => lN 0
  | r + 1 => lN (10 ^ r)
theorem sL_div : ∀ r, r ≤ 8 → lN (10 ^ r) / lN 10 = sL r
  | 0, _ => by rw [lN_div (by decide) (by decide)]; rfl
  | r + 1, h => by
    have h1 : 10 ^ (r + 1) ≤ 10 ^ 8 := Nat.pow_le_pow_right (by omega) h
    rw [lN_div (by omega) (by decide), Nat.pow_succ, Nat.mul_div_cancel _ (by omega)]
    rfl
theorem gtx_nil (w : Nat) : gtx [] w = -1 := by rw [gtx, if_neg (by simp)]
theorem gtx_at (L : List Nat) (u : Nat) : gtx (L ++ [u]) L.length = nI u := by
  rw [gtx, if_pos (by simp)]
  simp [List.getD_eq_getElem?_getD]
theorem gtx_ne (L : List Nat) (u : Nat) {w : Nat} (h : ¬ L.length = w) : gtx (L ++ [u]) w = gtx L w := by
  unfold gtx
  rw [List.length_append]
  simp only [List.length_cons, List.length_nil]
  by_cases e : w < L.length
  · rw [if_pos (by omega), if_pos e]
    simp [List.getD_eq_getElem?_getD, List.getElem?_append_left e]
  · rw [if_neg (by omega), if_neg e]
