theorem nar_b {c : Nat} (h : c < 128) : vp_nar .byte (nI c) = nI c := by
  have : ∀ k : Fin 128, vp_nar .byte (nI k.val) = nI k.val := by decide
  exact this ⟨c, h⟩
theorem i2b_s {c : Nat} (h : c < 128) : (nI c).toInt8.toInt32 = nI c := by
  have : ∀ k : Fin 128, (nI k.val).toInt8.toInt32 = nI k.val := by decide
  exact this ⟨c, h⟩
theorem and255 {c : Nat} (h : c < 128) : nI c &&& nI 255 = nI c := by
  have : ∀ k : Fin 128, nI k.val &&& nI 255 = nI k.val := by decide
  exact this ⟨c, h⟩
theorem i2c_s {c : Nat} (h : c < 128) : ((nI c).toUInt32 % 65536).toInt32 = nI c := by
  have : ∀ k : Fin 128, ((nI k.val).toUInt32 % 65536).toInt32 = nI k.val := by decide
  exact this ⟨c, h⟩
theorem nar_c {c : Nat} (h : c < 128) : narrow .char (.int (nI c)) = .int (nI c) := (pk_charN (by omega)).1
theorem sub_le0 {q : Nat} (h : q ≤ 16) : nI q - nI 16 ≤ 0 := by
  have : ∀ k : Fin 17, nI k.val - nI 16 ≤ 0 := by decide
  exact this ⟨q, by omega⟩
/-- the letters of a number -/
def dgl (v : Nat) : List Nat := if v < 10 then [48 + v] else dgl (v / 10) ++ [48 + v % 10]
termination_by v
decreasing_by omega
theorem dgl_lt {v : Nat} (h : v < 10) : dgl v = [48 + v] := by rw [dgl, if_pos h]
theorem dgl_ge {v : Nat} (h : 10 ≤ v) : dgl v = dgl (v / 10) ++ [48 + v % 10] := by rw [dgl, if_neg (by omega)]
theorem dgl_100 {v : Nat} (h : 100 ≤ v) : dgl v = dgl (v / 100) ++ [48 + v % 100 / 10, 48 + v % 100 % 10] := by
  rw [dgl_ge (by omega), dgl_ge (v := v / 10) (by omega), Nat.div_div_eq_div_mul, List.append_assoc]
  congr 1
  show [_, _] = _
  rw [show v / 10 % 10 = v % 100 / 10 by omega, show v % 10 = v % 100 % 10 by omega]
theorem dgl_len : ∀ (k v : Nat), v < 10 ^ (k + 1) → (k = 0 ∨ 10 ^ k ≤ v) → (dgl v).length = k + 1
  | 0, v, h, _ => by rw [dgl_lt (by omega)]; rfl
  | k + 1, v, h, h2 => by
    have h3 : 10 ^ (k + 1) ≤ v := by rcases h2 with q | q; omega; exact q
    have h4 : 10 ≤ v := Nat.le_trans (by rw [Nat.pow_succ]; have := Nat.one_le_pow k 10 (by omega); omega) h3
    rw [dgl_ge h4, List.length_append, dgl_len k (v / 10) (by rw [Nat.pow_succ] at h; omega) (Or.inr (by rw [Nat.pow_succ] at h3; omega))]
    rfl
theorem dgl_in : ∀ (k v : Nat), v < 10 ^ (k + 1) → 0 < (dgl v).length ∧ (dgl v).length ≤ k + 1
  | 0, v, h => by rw [dgl_lt (by omega)]; exact ⟨by simp, by simp⟩
  | k + 1, v, h => by
    rcases Nat.lt_or_ge v 10 with q | q
    · rw [dgl_lt q]; exact ⟨by simp, by simp⟩
    · have := dgl_in k (v / 10) (by rw [Nat.pow_succ] at h; omega)
      rw [dgl_ge q, List.length_append]
      simp only [List.length_cons, List.length_nil]
      omega
theorem dgl_128 : ∀ (n v : Nat), v < n → ∀ c ∈ dgl v, c < 128
  | 0, v, h => absurd h (Nat.not_lt_zero v)
  | n + 1, v, h => by
    intro c hc
    rcases Nat.lt_or_ge v 10 with q | q
    · rw [dgl_lt q] at hc
      simp only [List.mem_cons, List.not_mem_nil, or_false] at hc
      omega
    · rw [dgl_ge q, List.mem_append] at hc
      rcases hc with hc | hc
      · exact dgl_128 n (v / 10) (by omega) c hc
      · simp only [List.mem_cons, List.not_mem_nil, or_false] at hc
        omega
/-- letters written from a place on -/
def wrt (f : Nat → Int32) (a : Nat) (L : List Nat) : Nat → Int32 := fun j => if a ≤ j ∧ j < a + L.length then nI (L.getD (j - a) 0) else f j
theorem wrt_snoc (f : Nat → Int32) (a : Nat) (L : List Nat) (c : Nat) : wrt f a (L ++ [c]) = wrt (upd f (a + L.length) (nI c)) a L := by
  funext j
  unfold wrt
  rw [List.length_append]
  simp only [List.length_cons, List.length_nil]
  by_cases h : a ≤ j ∧ j < a + L.length
  · rw [if_pos (by omega), if_pos h]
    simp [List.getD_eq_getElem?_getD, List.getElem?_append_left (show j - a < L.length by omega)]
  · rw [if_neg h]
    by_cases e : j = a + L.length
    · rw [if_pos (by omega), e, upd_at]
      simp [List.getD_eq_getElem?_getD]
    · rw [if_neg (by omega), upd_ne _ _ e]
theorem wrt_one (f : Nat → Int32) (a c : Nat) : wrt f a [c] = upd f a (nI c) := by
  rw [show [c] = [] ++ [c] from rfl, wrt_snoc]
  funext j
  unfold wrt
  rw [if_neg (by simp)]
  rfl
/-- what the letters of a builder are -/
def txt (f : Nat → Int32) (n : Nat) (L : List Nat) : Prop := n = L.length ∧ ∀ j, j < n → f j = nI (L.getD j 0)
theorem txt_wrt {f : Nat → Int32} {n : Nat} {L : List Nat} (h : txt f n L) (M : List Nat) : txt (wrt f n M) (n + M.length) (L ++ M) := by
  obtain ⟨rfl, h⟩ := h
  refine ⟨by rw [List.length_append], fun j hj => ?_⟩
  unfold wrt
  by_cases e : j < L.length
  · rw [if_neg (by omega), h j e]
    simp [List.getD_eq_getElem?_getD, List.getElem?_append_left e]
  · rw [if_pos (by omega)]
    simp [List.getD_eq_getElem?_getD, List.getElem?_append_right (Nat.not_lt.mp e)]
theorem neg_nI_le {a b : Nat} (ha : a < 2 ^ 31) (hb : b < 2 ^ 31) : -nI a ≤ -nI b ↔ b ≤ a := sb_nle ha hb
theorem neg_ten (n : Nat) : nI 10 * (-nI n) = -nI (10 * n) := by
  rw [Int32.mul_neg, pk_mul]
theorem getc_step {f : Nat → Int32} {w q : Nat} (h : 100 ≤ w) (hl : (dgl w).length ≤ q) : wrt (upd (upd f (q - 1) (nI (48 + w % 100 % 10))) (q - 1 - 1) (nI (48 + w % 100 / 10))) (q - 1 - 1 - (dgl (w / 100)).length) (dgl (w / 100)) = wrt f (q - (dgl w).length) (dgl w) := by
  have e := dgl_100 h
  have el : (dgl w).length = (dgl (w / 100)).length + 2 := by rw [e, List.length_append]; rfl
  rw [el] at hl ⊢
  rw [e, show dgl (w / 100) ++ [48 + w % 100 / 10, 48 + w % 100 % 10] = (dgl (w / 100) ++ [48 + w % 100 / 10]) ++ [48 + w % 100 % 10] by rw [List.append_assoc]; rfl, wrt_snoc, wrt_snoc, List.length_append]
  rw [show q - ((dgl (w / 100)).length + 2) + ((dgl (w / 100)).length + [48 + w % 100 / 10].length) = q - 1 by simp only [List.length_cons, List.length_nil]; omega, show q - ((dgl (w / 100)).length + 2) + (dgl (w / 100)).length = q - 1 - 1 by omega, show q - 1 - 1 - (dgl (w / 100)).length = q - ((dgl (w / 100)).length + 2) by omega]
theorem dgl_len100 {w : Nat} (h : 100 ≤ w) : (dgl w).length = (dgl (w / 100)).length + 2 := by rw [dgl_100 h, List.length_append]; rfl
theorem dgl_l1 {w : Nat} (h : w < 10) : (dgl w).length = 1 := by rw [dgl_lt h]; rfl
theorem dgl_l2 {w : Nat} (h : 10 ≤ w) (h2 : w < 100) : (dgl w).length = 2 := by rw [dgl_ge h, dgl_lt (v := w / 10) (by omega)]; rfl
theorem dgl_pos (w : Nat) : 0 < (dgl w).length := by
  rcases Nat.lt_or_ge w 10 with q | q
  · rw [dgl_lt q]; simp
  · rw [dgl_ge q, List.length_append]; simp
theorem getc_end1 {f : Nat → Int32} {w q : Nat} (h : w < 10) : upd f (q - 1) (nI (48 + w % 10)) = wrt f (q - (dgl w).length) (dgl w) := by
  rw [dgl_lt h, wrt_one, show w % 10 = w by omega]; rfl
theorem getc_end2 {f : Nat → Int32} {w q : Nat} (h : 10 ≤ w) (h2 : w < 100) (hl : 2 ≤ q) : upd (upd f (q - 1) (nI (48 + w % 10))) (q - 1 - 1) (nI (48 + w / 10)) = wrt f (q - (dgl w).length) (dgl w) := by
  rw [dgl_l2 h h2, dgl_ge h, dgl_lt (v := w / 10) (by omega), wrt_snoc, wrt_one]
  rw [show q - 2 + [48 + w / 10].length = q - 1 by simp only [List.length_cons, List.length_nil]; omega, show q - 2 = q - 1 - 1 by omega]
def nchr (cav : Nat → Nat) (v : Nat) : Nat := if 0 < cav v then 67 else 78
/-- the text of a bundle -/
def btxt (cav fN oN ln : Nat → Nat) (k : Nat) : List Nat := (((((([] ++ [nchr cav (fN k)]) ++ dgl (fN k)) ++ [45]) ++ [nchr cav (oN k)]) ++ dgl (oN k)) ++ [32]) ++ dgl (ln k)
theorem txt_nil (f : Nat → Int32) : txt f 0 [] := ⟨rfl, fun j hj => absurd hj (Nat.not_lt_zero j)⟩
theorem txt_put {f : Nat → Int32} {n : Nat} {L : List Nat} (h : txt f n L) (c : Nat) : txt (upd f n (nI c)) (n + 1) (L ++ [c]) := by
  have := txt_wrt h [c]
  rw [wrt_one] at this
  exact this
theorem btxt_128 {cav fN oN ln : Nat → Nat} {k : Nat} : ∀ c ∈ btxt cav fN oN ln k, c < 128 := by
  intro c hc
  have hn : ∀ v, nchr cav v < 128 := fun v => by unfold nchr; split <;> omega
  simp only [btxt, List.mem_append, List.mem_cons, List.not_mem_nil, or_false, false_or] at hc
  rcases hc with (((((h | h) | h) | h) | h) | h) | h
  · rw [h]; exact hn _
  · exact dgl_128 _ _ (Nat.lt_succ_self _) c h
  · omega
  · rw [h]; exact hn _
  · exact dgl_128 _ _ (Nat.lt_succ_self _) c h
  · omega
  · exact dgl_128 _ _ (Nat.lt_succ_self _) c h
theorem getD_128 {L : List Nat} (h : ∀ c ∈ L, c < 128) (i : Nat) : L.getD i 0 < 128 := by
  rw [List.getD_eq_getElem?_getD]
  cases e : L[i]? with
  | none => decide
  | some c => exact h c (List.mem_of_getElem? e)
def gtx (L : List Nat) (i : Nat) : Int32 := if i < L.length then nI (L.getD i 0) else -1
