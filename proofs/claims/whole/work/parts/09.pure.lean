/-! pure words: arrays of naturals, the ways -/
theorem eqk {α : Type} {P : α → Prop} {v : α} (k : P v) : ∀ (r : α) (_ : Unit), r = v → P r := fun r _ h => by subst h; exact k
def updN (f : Nat → Nat) (k v : Nat) : Nat → Nat := fun j => if j = k then v else f j
theorem upd_nI (f : Nat → Nat) (k v : Nat) : upd (fun j => nI (f j)) k (nI v) = fun j => nI (updN f k v j) := by
  funext j
  by_cases h : j = k
  · simp [upd, updN, h]
  · simp [upd, updN, h]
theorem nI_dec (a : Nat) (h : 1 ≤ a) : nI a + Int32.ofInt (-1) = nI (a - 1) := by
  obtain ⟨b, rfl⟩ : ∃ b, a = b + 1 := ⟨a - 1, by omega⟩
  rw [show b + 1 - 1 = b by omega]
  exact pk_m1 b
/-- a way is set, both ways round -/
def sw (wy : Nat → Int64) (a b : Nat) (w : Int64) : Nat → Int64 := vp_updL (vp_updL wy (a * 16 + b) w) (b * 16 + a) w
/-- a new node has no way to those ahead of it -/
def swl (wy : Nat → Int64) (n : Nat) : Nat → Nat → Int64
  | 0 => wy
  | k + 1 => sw (swl wy n k) n k (-1)
/-! ===== Int32 by its bits: bt x i ===== -/
def bt (x : Int32) (i : Nat) : Bool := x.toBitVec.getLsbD i
theorem b_ext {x y : Int32} (h : ∀ i, i < 32 → bt x i = bt y i) : x = y := Int32.toBitVec_inj.mp (BitVec.eq_of_getLsbD_eq (fun i hi => h i hi))
theorem b_or (x y : Int32) (i : Nat) : bt (x ||| y) i = (bt x i || bt y i) := by unfold bt; rw [Int32.toBitVec_or, BitVec.getLsbD_or]
theorem b_and (x y : Int32) (i : Nat) : bt (x &&& y) i = (bt x i && bt y i) := by unfold bt; rw [Int32.toBitVec_and, BitVec.getLsbD_and]
theorem b_xor (x y : Int32) (i : Nat) : bt (x ^^^ y) i = (bt x i ^^ bt y i) := by unfold bt; rw [Int32.toBitVec_xor, BitVec.getLsbD_xor]
theorem b_big {x : Int32} {i : Nat} (h : 32 ≤ i) : bt x i = false := BitVec.getLsbD_of_ge _ _ h
theorem b_255 (i : Nat) : bt 255 i = decide (i < 8) := by
  rcases Nat.lt_or_ge i 32 with h | h
  · exact (by decide +kernel : ∀ i, i < 32 → bt 255 i = decide (i < 8)) i h
  · rw [b_big h, decide_eq_false (by omega)]
theorem b_65535 (i : Nat) : bt 65535 i = decide (i < 16) := by
  rcases Nat.lt_or_ge i 32 with h | h
  · exact (by decide +kernel : ∀ i, i < 32 → bt 65535 i = decide (i < 16)) i h
  · rw [b_big h, decide_eq_false (by omega)]
theorem b_m1 : ∀ i, i < 32 → bt (-1) i = true := by decide +kernel
theorem b_0 (i : Nat) : bt 0 i = false := BitVec.getLsbD_zero
theorem s_l : ∀ n, n < 32 → ((nI n &&& 31).toBitVec.smod 32).toNat = n := by decide +kernel
theorem s_u : ∀ n, n < 32 → (((nI n).toUInt32 &&& Int32.toUInt32 31).toBitVec % 32).toNat = n := by decide +kernel
theorem b_shl (n : Nat) (hn : n < 32) (x : Int32) {i : Nat} (hi : i < 32) : bt (x <<< (nI n &&& 31)) i = (decide (n ≤ i) && bt x (i - n)) := by
  unfold bt
  rw [Int32.toBitVec_shiftLeft]
  show (x.toBitVec <<< ((nI n &&& 31).toBitVec.smod 32).toNat).getLsbD i = _
  rw [s_l n hn, BitVec.getLsbD_shiftLeft]
  rcases Nat.lt_or_ge i n with h | h
  · simp [h, Nat.not_le.mpr h]
  · simp [hi, h, Nat.not_lt.mpr h]
theorem b_ushr (n : Nat) (hn : n < 32) (x : Int32) (i : Nat) : bt ((x.toUInt32 >>> ((nI n).toUInt32 &&& Int32.toUInt32 31)).toInt32) i = bt x (n + i) := by
  show (x.toUInt32 >>> ((nI n).toUInt32 &&& Int32.toUInt32 31)).toBitVec.getLsbD i = x.toUInt32.toBitVec.getLsbD (n + i)
  rw [UInt32.toBitVec_shiftRight]
  show (x.toUInt32.toBitVec >>> (((nI n).toUInt32 &&& Int32.toUInt32 31).toBitVec % 32).toNat).getLsbD i = _
  rw [s_u n hn, BitVec.getLsbD_ushiftRight]
theorem b_sshr (n : Nat) (hn : n < 32) (x : Int32) {i : Nat} (hi : i < 32) : bt (x >>> (nI n &&& 31)) i = if n + i < 32 then bt x (n + i) else bt x 31 := by
  unfold bt
  rw [Int32.toBitVec_shiftRight]
  show (x.toBitVec.sshiftRight ((nI n &&& 31).toBitVec.smod 32).toNat).getLsbD i = _
  rw [s_l n hn, BitVec.getLsbD_sshiftRight, BitVec.msb_eq_getLsbD_last]
  simp [hi]
theorem b_shl8 (x : Int32) {i : Nat} (hi : i < 32) : bt (x <<< ((8 : Int32) &&& 31)) i = (decide (8 ≤ i) && bt x (i - 8)) := b_shl 8 (by omega) x hi
theorem b_shl16 (x : Int32) {i : Nat} (hi : i < 32) : bt (x <<< ((16 : Int32) &&& 31)) i = (decide (16 ≤ i) && bt x (i - 16)) := b_shl 16 (by omega) x hi
theorem b_shl24 (x : Int32) {i : Nat} (hi : i < 32) : bt (x <<< ((24 : Int32) &&& 31)) i = (decide (24 ≤ i) && bt x (i - 24)) := b_shl 24 (by omega) x hi
theorem b_sshr8 (x : Int32) {i : Nat} (hi : i < 32) : bt (x >>> ((8 : Int32) &&& 31)) i = if 8 + i < 32 then bt x (8 + i) else bt x 31 := b_sshr 8 (by omega) x hi
theorem b_1 : ∀ i, i < 32 → bt (nI 1) i = decide (i = 0) := by decide +kernel
theorem hb_iff {x : Int32} {n : Nat} (hn : n < 32) : (x >>> (nI n &&& 31)) &&& nI 1 = 0 ↔ bt x n = false := by
  constructor
  · intro h
    have h0 : bt ((x >>> (nI n &&& 31)) &&& nI 1) 0 = false := by rw [h]; exact b_0 0
    rw [b_and, b_sshr n hn x (by omega), if_pos (by omega), b_1 0 (by omega)] at h0
    simpa using h0
  · intro h
    refine b_ext (fun i hi => ?_)
    rw [b_and, b_1 i hi, b_0]
    by_cases h0 : i = 0
    · subst h0
      rw [b_sshr n hn x (by omega), if_pos (by omega)]
      simp [h]
    · simp [h0]
theorem b_one (n : Nat) (hn : n < 32) {i : Nat} (hi : i < 32) : bt (nI 1 <<< (nI n &&& 31)) i = decide (i = n) := by
  rw [b_shl n hn (nI 1) hi]
  by_cases h : n ≤ i
  · rw [b_1 (i - n) (by omega)]
    by_cases h2 : i = n
    · simp [h2]
    · simp [h, h2]; omega
  · have h2 : ¬ i = n := by omega
    simp [h, h2]
/-- the bits of the nodes that a has a way to, below k -/
def tb (wy : Nat → Int64) (a : Nat) : Nat → Int32
  | 0 => nI 0
  | k + 1 => if wy (a * 16 + k) = -1 then tb wy a k else tb wy a k ||| (nI 1 <<< (nI k &&& 31))
def jrow (A B : Int32) (a b : Nat) (len : Int64) (i : Nat) (wy : Nat → Int64) : Nat → Nat → Int64
  | 0 => wy
  | j + 1 => if bt A i = true ∧ bt B j = true then sw (jrow A B a b len i wy j) i j (jrow A B a b len i wy j (i * 16 + a) + len + jrow A B a b len i wy j (b * 16 + j)) else jrow A B a b len i wy j
def jall (A B : Int32) (a b : Nat) (len : Int64) (n : Nat) (wy : Nat → Int64) : Nat → Nat → Int64
  | 0 => wy
  | i + 1 => jrow A B a b len i (jall A B a b len n wy i) n
