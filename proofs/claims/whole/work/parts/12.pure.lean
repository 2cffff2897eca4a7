/-- groups: all of gone go to kept -/
def mg (gr : Nat → Nat) (kept gone : Nat) : Nat → Nat → Nat
  | 0 => gr
  | i + 1 => if mg gr kept gone i i = gone then updN (mg gr kept gone i) i kept else mg gr kept gone i
theorem mg_ge (gr : Nat → Nat) (kept gone : Nat) : ∀ {i j : Nat}, i ≤ j → mg gr kept gone i j = gr j
  | 0, j, _ => rfl
  | i + 1, j, h => by
    unfold mg
    split
    · rw [updN, if_neg (by omega)]; exact mg_ge gr kept gone (by omega)
    · exact mg_ge gr kept gone (by omega)
def gid : Nat → Nat → Nat
  | 0 => fun _ => 0
  | k + 1 => updN (gid k) k k
def pput (pa : Nat → Int32) (a b : Nat) : Nat → Int32 := upd (upd pa a (pa a ||| (nI 1 <<< (nI b &&& 31)))) b (upd pa a (pa a ||| (nI 1 <<< (nI b &&& 31))) b ||| (nI 1 <<< (nI a &&& 31)))
/-- is the wire w on, by what was told of the variants below k -/
def von (tw ow : Nat → Int32) (w : Nat) : Nat → Bool
  | 0 => true
  | k + 1 => if bt (tw k) w = true then bt (ow k) w else von tw ow w k
theorem bI_inj {a b : Bool} : bI a = bI b ↔ a = b := by cases a <;> cases b <;> decide
def cnt (p : Nat → Bool) : Nat → Nat
  | 0 => 0
  | i + 1 => if p i = true then cnt p i else cnt p i + 1
theorem cnt_le (p : Nat → Bool) : ∀ i, cnt p i ≤ i
  | 0 => Nat.le_refl 0
  | i + 1 => by have := cnt_le p i; unfold cnt; split <;> omega
def koff (p : Nat → Bool) (k : Nat) : Nat → Bool := fun i => !(p i) && decide (cnt p i = k)
def owput (ow : Nat → Int32) (v w : Nat) (on : Bool) : Nat → Int32 := upd ow v (if on = true then ow v ||| (nI 1 <<< (nI w &&& 31)) else ow v &&& ((nI 1 <<< (nI w &&& 31)) ^^^ (-1)))
section GXX
variable {X : gxT} {cells slots : Nat} {ws : va_W} {pc : Nat} {lv : List (Nat × Value)} {st : List Value} {cc : ByteArray} {own : String} {Ts : List Cond} {tys : List (ClassId × FieldType)} {N : Nat} {Rm : Room}
theorem g_maxn (C : gx_C X cc own Ts tys N Rm) {index a b : Nat} (h1 : Cond.methodLink own index Lib.Math.max.name ∈ Ts) (h2 : Cond.static Lib.Math.max.name ∈ Ts) (h3 : Cond.initialized "java/lang/Math" ∈ Ts) (h4 : Cond.code Lib.Math.max.name Lib.Math.max.code 2 (some .int) ∈ Ts) (hdg : decode cc pc = .ok (.invokestatic index, 3)) (pc' : Nat) (hp : pc + 3 = pc') (hf : 1 ≤ Rm.frames) (hlo : (st.map fun v => v.category).sum + 13 ≤ Rm.locals) (hc : cells ≤ Rm.cells) (hs : slots ≤ Rm.slots) (ha : a < 2147483648) (hb : b < 2147483648) (k : gx X cells slots ws pc' lv (.int (nI (Nat.max a b)) :: st)) : gx X cells slots ws pc lv (.int (nI b) :: .int (nI a) :: st) := by
  obtain ⟨p, l, e, R, s, m, args, below, meth, c, A, D, nL, Q⟩ := X
  subst hp
  have hRm : R = Rm := C.2.2.2.2.2.2.2.2
  subst hRm
  intro H locs ls hP hD hS hl
  refine va_mmax C.1 C.2.1 (C.2.2.1.trans hl.1.symm) C.2.2.2.1 (C.2.2.2.2.1 _ h1) (C.2.2.2.2.1 _ h2) (C.2.2.2.2.1 _ h3) (C.2.2.2.2.1 _ h4) hf hlo hc hs hdg ?_
  have e1 : (if nI a < nI b then nI b else nI a) = nI (Nat.max a b) := by
    have : nI a < nI b ↔ a < b := nI_ltI (by omega) (by omega)
    by_cases h : a < b
    · rw [if_pos (this.mpr h), show Nat.max a b = b from Nat.max_eq_right (by omega)]
    · rw [if_neg (fun q => h (this.mp q)), show Nat.max a b = a from Nat.max_eq_left (by omega)]
  rw [e1]
  exact k H locs ls hP hD hS hl
end GXX
