/-! My own judgement over the kit's W: gx X cells slots ws pc lv st: from every heap that holds the cells ws, with the variables lv and the operands st, at pc, the walk comes to its end. X: all that is fixed in one method's body. -/
abbrev gxT : Type := Program × Launch × Env × Room × State × MethodId × Array Value × List Frame × Method × Code × (Nat → Prop) × va_G × Nat × (State → Prop)
def gx (X : gxT) (cells slots : Nat) (ws : va_W) (pc : Nat) (lv : List (Nat × Value)) (st : List Value) : Prop :=
  match X with
  | (p, l, e, R, s, m, args, below, meth, c, A, D, nL, Q) => ∀ (H : Heap) (locs : List Loc) (ls : Array Slot), va_P D vwCl ws H → va_D A ws → va_S A s.heap H locs → lv_has ls nL lv → W p l e R s m args below meth c H locs cells slots Q (F0 m pc ls st)
def gx_C (X : gxT) (cc : ByteArray) (own : String) (Ts : List Cond) (tys : List (ClassId × FieldType)) (N : Nat) (Rm : Room) : Prop :=
  match X with
  | (p, _, _, R, s, m, args, _, _, c, A, D, nL, _) => p.tables.exec = Jvm.exec ∧ c.code = cc ∧ c.maxLocals = nL ∧ s.vm.findClass own = some m.cls ∧ (∀ w ∈ Ts, w.before args s = true) ∧ va_K D vwCl tys s ∧ (∀ q, s.heap.size ≤ q → A q) ∧ nL = N ∧ R = Rm
def lk (lv : List (Nat × Value)) (i : Nat) : Option Value := (lv.find? (fun q => q.1 == i)).map Prod.snd
theorem lk_has {ls : Array Slot} {nL : Nat} {lv : List (Nat × Value)} {i : Nat} {v : Value} (h : lv_has ls nL lv) (hk : lk lv i = some v) : ls[i]? = some (.val v) := by
  unfold lk at hk
  cases hq : lv.find? (fun q => q.1 == i) with
  | none => rw [hq] at hk; cases hk
  | some q =>
    rw [hq] at hk
    have hm := List.mem_of_find?_eq_some hq
    have hp := List.find?_some hq
    have hi : q.1 = i := by simpa using hp
    have h2 := h.2.2 q hm
    rw [hi] at h2
    cases hk
    exact h2
section GX
variable {X : gxT} {cells slots : Nat} {ws : va_W} {pc : Nat} {lv : List (Nat × Value)} {st : List Value} {cc : ByteArray} {own : String} {Ts : List Cond} {tys : List (ClassId × FieldType)} {N : Nat} {Rm : Room}
theorem g_iconst (C : gx_C X cc own Ts tys N Rm) {n : Int} {v : Int32} (hdg : decode cc pc = .ok (.iconst n, 1)) (pc' : Nat) (hp : pc + 1 = pc') (hv : Int32.ofInt n = v) (k : gx X cells slots ws pc' lv (.int v :: st)) : gx X cells slots ws pc lv st := by
  obtain ⟨p, l, e, R, s, m, args, below, meth, c, A, D, nL, Q⟩ := X
  subst hp
  exact fun H locs ls hP hD hS hl => lv_iconst C.1 C.2.1 hdg hv (k H locs ls hP hD hS hl)
theorem g_bipush (C : gx_C X cc own Ts tys N Rm) {n : Int} {v : Int32} (hdg : decode cc pc = .ok (.bipush n, 2)) (pc' : Nat) (hp : pc + 2 = pc') (hv : (Int8.ofInt n).toInt32 = v) (k : gx X cells slots ws pc' lv (.int v :: st)) : gx X cells slots ws pc lv st := by
  obtain ⟨p, l, e, R, s, m, args, below, meth, c, A, D, nL, Q⟩ := X
  subst hp
  exact fun H locs ls hP hD hS hl => lv_bipush C.1 C.2.1 hdg hv (k H locs ls hP hD hS hl)
theorem g_sipush (C : gx_C X cc own Ts tys N Rm) {n : Int} {v : Int32} (hdg : decode cc pc = .ok (.sipush n, 3)) (pc' : Nat) (hp : pc + 3 = pc') (hv : (Int16.ofInt n).toInt32 = v) (k : gx X cells slots ws pc' lv (.int v :: st)) : gx X cells slots ws pc lv st := by
  obtain ⟨p, l, e, R, s, m, args, below, meth, c, A, D, nL, Q⟩ := X
  subst hp
  exact fun H locs ls hP hD hS hl => lv_sipush C.1 C.2.1 hdg hv (k H locs ls hP hD hS hl)
theorem g_lconst (C : gx_C X cc own Ts tys N Rm) {n : Fin 2} {v : Int64} (hdg : decode cc pc = .ok (.lconst n, 1)) (pc' : Nat) (hp : pc + 1 = pc') (hv : Int64.ofNat (n : Nat) = v) (k : gx X cells slots ws pc' lv (.long v :: st)) : gx X cells slots ws pc lv st := by
  obtain ⟨p, l, e, R, s, m, args, below, meth, c, A, D, nL, Q⟩ := X
  subst hp
  exact fun H locs ls hP hD hS hl => lv_lconst C.1 C.2.1 hdg hv (k H locs ls hP hD hS hl)
theorem g_ldc (C : gx_C X cc own Ts tys N Rm) {index : Nat} (v : Int32) (hc : Jvm.Cond.constant own index v ∈ Ts) (hdg : decode cc pc = .ok (.ldc index, 2)) (pc' : Nat) (hp : pc + 2 = pc') (k : gx X cells slots ws pc' lv (.int v :: st)) : gx X cells slots ws pc lv st := by
  obtain ⟨p, l, e, R, s, m, args, below, meth, c, A, D, nL, Q⟩ := X
  subst hp
  exact fun H locs ls hP hD hS hl => lv_ldc C.1 C.2.1 C.2.2.2.1 (C.2.2.2.2.1 _ hc) hdg (k H locs ls hP hD hS hl)
theorem g_ldc2 (C : gx_C X cc own Ts tys N Rm) {index : Nat} (v : Int64) (hc : Jvm.Cond.constantLong own index v ∈ Ts) (hdg : decode cc pc = .ok (.ldc2_w index, 3)) (pc' : Nat) (hp : pc + 3 = pc') (k : gx X cells slots ws pc' lv (.long v :: st)) : gx X cells slots ws pc lv st := by
  obtain ⟨p, l, e, R, s, m, args, below, meth, c, A, D, nL, Q⟩ := X
  subst hp
  exact fun H locs ls hP hD hS hl => lv_ldc2 C.1 C.2.1 C.2.2.2.1 (C.2.2.2.2.1 _ hc) hdg (k H locs ls hP hD hS hl)
theorem g_iload_n (C : gx_C X cc own Ts tys N Rm) {k0 : Fin 4} {x : Int32} (hdg : decode cc pc = .ok (.iload_n k0, 1)) (pc' : Nat) (hp : pc + 1 = pc') (hk : lk lv (k0 : Nat) = some (.int x)) (k : gx X cells slots ws pc' lv (.int x :: st)) : gx X cells slots ws pc lv st := by
  obtain ⟨p, l, e, R, s, m, args, below, meth, c, A, D, nL, Q⟩ := X
  subst hp
  exact fun H locs ls hP hD hS hl => lv_iload_n C.1 C.2.1 hdg rfl (lk_has hl hk) (k H locs ls hP hD hS hl)
theorem g_iload (C : gx_C X cc own Ts tys N Rm) {i : Nat} {x : Int32} (hdg : decode cc pc = .ok (.iload i, 2)) (pc' : Nat) (hp : pc + 2 = pc') (hk : lk lv i = some (.int x)) (k : gx X cells slots ws pc' lv (.int x :: st)) : gx X cells slots ws pc lv st := by
  obtain ⟨p, l, e, R, s, m, args, below, meth, c, A, D, nL, Q⟩ := X
  subst hp
  exact fun H locs ls hP hD hS hl => lv_iload C.1 C.2.1 hdg (lk_has hl hk) (k H locs ls hP hD hS hl)
theorem g_lload_n (C : gx_C X cc own Ts tys N Rm) {k0 : Fin 4} {x : Int64} (hdg : decode cc pc = .ok (.lload_n k0, 1)) (pc' : Nat) (hp : pc + 1 = pc') (hk : lk lv (k0 : Nat) = some (.long x)) (k : gx X cells slots ws pc' lv (.long x :: st)) : gx X cells slots ws pc lv st := by
  obtain ⟨p, l, e, R, s, m, args, below, meth, c, A, D, nL, Q⟩ := X
  subst hp
  exact fun H locs ls hP hD hS hl => lv_lload_n C.1 C.2.1 hdg rfl (lk_has hl hk) (k H locs ls hP hD hS hl)
theorem g_lload (C : gx_C X cc own Ts tys N Rm) {i : Nat} {x : Int64} (hdg : decode cc pc = .ok (.lload i, 2)) (pc' : Nat) (hp : pc + 2 = pc') (hk : lk lv i = some (.long x)) (k : gx X cells slots ws pc' lv (.long x :: st)) : gx X cells slots ws pc lv st := by
  obtain ⟨p, l, e, R, s, m, args, below, meth, c, A, D, nL, Q⟩ := X
  subst hp
  exact fun H locs ls hP hD hS hl => lv_lload C.1 C.2.1 hdg (lk_has hl hk) (k H locs ls hP hD hS hl)
theorem g_aload_n (C : gx_C X cc own Ts tys N Rm) {k0 : Fin 4} {x : Nat} (hdg : decode cc pc = .ok (.aload_n k0, 1)) (pc' : Nat) (hp : pc + 1 = pc') (hk : lk lv (k0 : Nat) = some (.ref x)) (k : gx X cells slots ws pc' lv (.ref x :: st)) : gx X cells slots ws pc lv st := by
  obtain ⟨p, l, e, R, s, m, args, below, meth, c, A, D, nL, Q⟩ := X
  subst hp
  exact fun H locs ls hP hD hS hl => lv_aload_n C.1 C.2.1 hdg rfl (lk_has hl hk) (k H locs ls hP hD hS hl)
theorem g_aload (C : gx_C X cc own Ts tys N Rm) {i : Nat} {x : Nat} (hdg : decode cc pc = .ok (.aload i, 2)) (pc' : Nat) (hp : pc + 2 = pc') (hk : lk lv i = some (.ref x)) (k : gx X cells slots ws pc' lv (.ref x :: st)) : gx X cells slots ws pc lv st := by
  obtain ⟨p, l, e, R, s, m, args, below, meth, c, A, D, nL, Q⟩ := X
  subst hp
  exact fun H locs ls hP hD hS hl => lv_aload C.1 C.2.1 hdg (lk_has hl hk) (k H locs ls hP hD hS hl)
theorem g_istore_n (C : gx_C X cc own Ts tys N Rm) {k0 : Fin 4} {x : Int32} (hdg : decode cc pc = .ok (.istore_n k0, 1)) (pc' : Nat) (hp : pc + 1 = pc') (hn : (k0 : Nat) < N) (ks : List Nat) {lv' : List (Nat × Value)} (hl' : lv_pick (((k0 : Nat), Value.int x) :: lv.filter (fun q => !(q.1 == (k0 : Nat)) && !(q.1 + 1 == (k0 : Nat) && q.2.category == 2))) ks = lv') (k : gx X cells slots ws pc' lv' st) : gx X cells slots ws pc lv (.int x :: st) := by
  obtain ⟨p, l, e, R, s, m, args, below, meth, c, A, D, nL, Q⟩ := X
  subst hp
  exact fun H locs ls hP hD hS hl => lv_istore_n C.1 C.2.1 hdg rfl hl (by rw [C.2.2.2.2.2.2.2.1]; exact hn) rfl (fun ls' h' => k H locs ls' hP hD hS (lv_sub h' ks hl'))
theorem g_istore (C : gx_C X cc own Ts tys N Rm) {i : Nat} {x : Int32} (hdg : decode cc pc = .ok (.istore i, 2)) (pc' : Nat) (hp : pc + 2 = pc') (hn : i < N) (ks : List Nat) {lv' : List (Nat × Value)} (hl' : lv_pick ((i, Value.int x) :: lv.filter (fun q => !(q.1 == i) && !(q.1 + 1 == i && q.2.category == 2))) ks = lv') (k : gx X cells slots ws pc' lv' st) : gx X cells slots ws pc lv (.int x :: st) := by
  obtain ⟨p, l, e, R, s, m, args, below, meth, c, A, D, nL, Q⟩ := X
  subst hp
  exact fun H locs ls hP hD hS hl => lv_istore C.1 C.2.1 hdg hl (by rw [C.2.2.2.2.2.2.2.1]; exact hn) rfl (fun ls' h' => k H locs ls' hP hD hS (lv_sub h' ks hl'))
theorem g_lstore_n (C : gx_C X cc own Ts tys N Rm) {k0 : Fin 4} {x : Int64} (hdg : decode cc pc = .ok (.lstore_n k0, 1)) (pc' : Nat) (hp : pc + 1 = pc') (hn : (k0 : Nat) + 1 < N) (ks : List Nat) {lv' : List (Nat × Value)} (hl' : lv_pick (((k0 : Nat), Value.long x) :: lv.filter (fun q => !(q.1 == (k0 : Nat)) && (!(q.1 == (k0 : Nat) + 1) && !(q.1 + 1 == (k0 : Nat) && q.2.category == 2)))) ks = lv') (k : gx X cells slots ws pc' lv' st) : gx X cells slots ws pc lv (.long x :: st) := by
  obtain ⟨p, l, e, R, s, m, args, below, meth, c, A, D, nL, Q⟩ := X
  subst hp
  exact fun H locs ls hP hD hS hl => lv_lstore_n C.1 C.2.1 hdg rfl hl (by rw [C.2.2.2.2.2.2.2.1]; exact hn) rfl (fun ls' h' => k H locs ls' hP hD hS (lv_sub h' ks hl'))
theorem g_lstore (C : gx_C X cc own Ts tys N Rm) {i : Nat} {x : Int64} (hdg : decode cc pc = .ok (.lstore i, 2)) (pc' : Nat) (hp : pc + 2 = pc') (hn : i + 1 < N) (ks : List Nat) {lv' : List (Nat × Value)} (hl' : lv_pick ((i, Value.long x) :: lv.filter (fun q => !(q.1 == i) && (!(q.1 == i + 1) && !(q.1 + 1 == i && q.2.category == 2)))) ks = lv') (k : gx X cells slots ws pc' lv' st) : gx X cells slots ws pc lv (.long x :: st) := by
  obtain ⟨p, l, e, R, s, m, args, below, meth, c, A, D, nL, Q⟩ := X
  subst hp
  exact fun H locs ls hP hD hS hl => lv_lstore C.1 C.2.1 hdg hl (by rw [C.2.2.2.2.2.2.2.1]; exact hn) rfl (fun ls' h' => k H locs ls' hP hD hS (lv_sub h' ks hl'))
theorem g_astore_n (C : gx_C X cc own Ts tys N Rm) {k0 : Fin 4} {x : Nat} (hdg : decode cc pc = .ok (.astore_n k0, 1)) (pc' : Nat) (hp : pc + 1 = pc') (hn : (k0 : Nat) < N) (ks : List Nat) {lv' : List (Nat × Value)} (hl' : lv_pick (((k0 : Nat), Value.ref x) :: lv.filter (fun q => !(q.1 == (k0 : Nat)) && !(q.1 + 1 == (k0 : Nat) && q.2.category == 2))) ks = lv') (k : gx X cells slots ws pc' lv' st) : gx X cells slots ws pc lv (.ref x :: st) := by
  obtain ⟨p, l, e, R, s, m, args, below, meth, c, A, D, nL, Q⟩ := X
  subst hp
  exact fun H locs ls hP hD hS hl => lv_astore_n C.1 C.2.1 hdg rfl hl (by rw [C.2.2.2.2.2.2.2.1]; exact hn) rfl (fun ls' h' => k H locs ls' hP hD hS (lv_sub h' ks hl'))
theorem g_astore (C : gx_C X cc own Ts tys N Rm) {i : Nat} {x : Nat} (hdg : decode cc pc = .ok (.astore i, 2)) (pc' : Nat) (hp : pc + 2 = pc') (hn : i < N) (ks : List Nat) {lv' : List (Nat × Value)} (hl' : lv_pick ((i, Value.ref x) :: lv.filter (fun q => !(q.1 == i) && !(q.1 + 1 == i && q.2.category == 2))) ks = lv') (k : gx X cells slots ws pc' lv' st) : gx X cells slots ws pc lv (.ref x :: st) := by
  obtain ⟨p, l, e, R, s, m, args, below, meth, c, A, D, nL, Q⟩ := X
  subst hp
  exact fun H locs ls hP hD hS hl => lv_astore C.1 C.2.1 hdg hl (by rw [C.2.2.2.2.2.2.2.1]; exact hn) rfl (fun ls' h' => k H locs ls' hP hD hS (lv_sub h' ks hl'))
theorem lk_pos {lv : List (Nat × Value)} {i : Nat} {v : Value} (hk : lk lv i = some v) : ∃ k : Nat, lv[k]? = some (i, v) := by
  unfold lk at hk
  cases hq : lv.find? (fun q => q.1 == i) with
  | none => rw [hq] at hk; cases hk
  | some q =>
    rw [hq] at hk
    have hm := List.mem_of_find?_eq_some hq
    have hi : q.1 = i := by simpa using List.find?_some hq
    obtain ⟨k, hk2⟩ := List.mem_iff_getElem?.mp hm
    refine ⟨k, hk2.trans ?_⟩
    cases hk
    rw [← hi]
theorem g_iinc (C : gx_C X cc own Ts tys N Rm) {i : Nat} {n : Int} {x v : Int32} (hdg : decode cc pc = .ok (.iinc i n, 3)) (pc' : Nat) (hp : pc + 3 = pc') (hk : lk lv i = some (.int x)) (hv : x + Int32.ofInt n = v) (hn : i < N) (ks : List Nat) {lv' : List (Nat × Value)} (hl' : lv_pick ((i, Value.int v) :: lv.filter (fun q => !(q.1 == i) && !(q.1 + 1 == i && q.2.category == 2))) ks = lv') (k : gx X cells slots ws pc' lv' st) : gx X cells slots ws pc lv st := by
  obtain ⟨p, l, e, R, s, m, args, below, meth, c, A, D, nL, Q⟩ := X
  subst hp
  obtain ⟨k2, hk2⟩ := lk_pos hk
  exact fun H locs ls hP hD hS hl => lv_iinc C.1 C.2.1 hdg hl hk2 hv (by rw [C.2.2.2.2.2.2.2.1]; exact hn) rfl (fun ls' h' => k H locs ls' hP hD hS (lv_sub h' ks hl'))
/-- the variables in another order, or fewer -/
theorem g_lv (ks : List Nat) {lv' : List (Nat × Value)} (hl' : lv_pick lv ks = lv') (k : gx X cells slots ws pc lv' st) : gx X cells slots ws pc lv st := by
  obtain ⟨p, l, e, R, s, m, args, below, meth, c, A, D, nL, Q⟩ := X
  exact fun H locs ls hP hD hS hl => k H locs ls hP hD hS (lv_sub hl ks hl')
/-- the cells said otherwise -/
theorem g_ws {ws' : va_W} (h : ws = ws') (k : gx X cells slots ws' pc lv st) : gx X cells slots ws pc lv st := h ▸ k
theorem g_st {st' : List Value} (h : st = st') (k : gx X cells slots ws pc lv st') : gx X cells slots ws pc lv st := h ▸ k
theorem g_topi {x : Int32} (y : Int32) (h : x = y) (k : gx X cells slots ws pc lv (.int y :: st)) : gx X cells slots ws pc lv (.int x :: st) := h ▸ k
theorem g_topl {x : Int64} (y : Int64) (h : x = y) (k : gx X cells slots ws pc lv (.long y :: st)) : gx X cells slots ws pc lv (.long x :: st) := h ▸ k
theorem g_widen {k n : Nat} (h1 : cells ≤ k) (h2 : slots ≤ n) (kk : gx X k n ws pc lv st) : gx X cells slots ws pc lv st := by
  obtain ⟨p, l, e, R, s, m, args, below, meth, c, A, D, nL, Q⟩ := X
  exact fun H locs ls hP hD hS hl => W.widen h1 h2 (kk H locs ls hP hD hS hl)
end GX
section GXA
variable {X : gxT} {cells slots : Nat} {ws : va_W} {pc : Nat} {lv : List (Nat × Value)} {st : List Value} {cc : ByteArray} {own : String} {Ts : List Cond} {tys : List (ClassId × FieldType)} {N : Nat} {Rm : Room}
theorem g_iadd (C : gx_C X cc own Ts tys N Rm) {x y : Int32} (hdg : decode cc pc = .ok (.iadd, 1)) (pc' : Nat) (hp : pc + 1 = pc') (k : gx X cells slots ws pc' lv (.int (x + y) :: st)) : gx X cells slots ws pc lv (.int y :: .int x :: st) := by
  obtain ⟨p, l, e, R, s, m, args, below, meth, c, A, D, nL, Q⟩ := X
  subst hp
  exact fun H locs ls hP hD hS hl => lv_iadd C.1 C.2.1 hdg (k H locs ls hP hD hS hl)
theorem g_isub (C : gx_C X cc own Ts tys N Rm) {x y : Int32} (hdg : decode cc pc = .ok (.isub, 1)) (pc' : Nat) (hp : pc + 1 = pc') (k : gx X cells slots ws pc' lv (.int (x - y) :: st)) : gx X cells slots ws pc lv (.int y :: .int x :: st) := by
  obtain ⟨p, l, e, R, s, m, args, below, meth, c, A, D, nL, Q⟩ := X
  subst hp
  exact fun H locs ls hP hD hS hl => lv_isub C.1 C.2.1 hdg (k H locs ls hP hD hS hl)
theorem g_imul (C : gx_C X cc own Ts tys N Rm) {x y : Int32} (hdg : decode cc pc = .ok (.imul, 1)) (pc' : Nat) (hp : pc + 1 = pc') (k : gx X cells slots ws pc' lv (.int (x * y) :: st)) : gx X cells slots ws pc lv (.int y :: .int x :: st) := by
  obtain ⟨p, l, e, R, s, m, args, below, meth, c, A, D, nL, Q⟩ := X
  subst hp
  exact fun H locs ls hP hD hS hl => lv_imul C.1 C.2.1 hdg (k H locs ls hP hD hS hl)
theorem g_iand (C : gx_C X cc own Ts tys N Rm) {x y : Int32} (hdg : decode cc pc = .ok (.iand, 1)) (pc' : Nat) (hp : pc + 1 = pc') (k : gx X cells slots ws pc' lv (.int (x &&& y) :: st)) : gx X cells slots ws pc lv (.int y :: .int x :: st) := by
  obtain ⟨p, l, e, R, s, m, args, below, meth, c, A, D, nL, Q⟩ := X
  subst hp
  exact fun H locs ls hP hD hS hl => lv_iand C.1 C.2.1 hdg (k H locs ls hP hD hS hl)
theorem g_ior (C : gx_C X cc own Ts tys N Rm) {x y : Int32} (hdg : decode cc pc = .ok (.ior, 1)) (pc' : Nat) (hp : pc + 1 = pc') (k : gx X cells slots ws pc' lv (.int (x ||| y) :: st)) : gx X cells slots ws pc lv (.int y :: .int x :: st) := by
  obtain ⟨p, l, e, R, s, m, args, below, meth, c, A, D, nL, Q⟩ := X
  subst hp
  exact fun H locs ls hP hD hS hl => lv_ior C.1 C.2.1 hdg (k H locs ls hP hD hS hl)
theorem g_ixor (C : gx_C X cc own Ts tys N Rm) {x y : Int32} (hdg : decode cc pc = .ok (.ixor, 1)) (pc' : Nat) (hp : pc + 1 = pc') (k : gx X cells slots ws pc' lv (.int (x ^^^ y) :: st)) : gx X cells slots ws pc lv (.int y :: .int x :: st) := by
  obtain ⟨p, l, e, R, s, m, args, below, meth, c, A, D, nL, Q⟩ := X
  subst hp
  exact fun H locs ls hP hD hS hl => lv_ixor C.1 C.2.1 hdg (k H locs ls hP hD hS hl)
theorem g_idiv (C : gx_C X cc own Ts tys N Rm) {x y : Int32} (hdg : decode cc pc = .ok (.idiv, 1)) (pc' : Nat) (hp : pc + 1 = pc') (hne : ¬ y = 0) (k : gx X cells slots ws pc' lv (.int (x / y) :: st)) : gx X cells slots ws pc lv (.int y :: .int x :: st) := by
  obtain ⟨p, l, e, R, s, m, args, below, meth, c, A, D, nL, Q⟩ := X
  subst hp
  exact fun H locs ls hP hD hS hl => lv_idiv C.1 C.2.1 hdg hne (k H locs ls hP hD hS hl)
theorem g_ladd (C : gx_C X cc own Ts tys N Rm) {x y : Int64} (hdg : decode cc pc = .ok (.ladd, 1)) (pc' : Nat) (hp : pc + 1 = pc') (k : gx X cells slots ws pc' lv (.long (x + y) :: st)) : gx X cells slots ws pc lv (.long y :: .long x :: st) := by
  obtain ⟨p, l, e, R, s, m, args, below, meth, c, A, D, nL, Q⟩ := X
  subst hp
  exact fun H locs ls hP hD hS hl => lv_ladd C.1 C.2.1 hdg (k H locs ls hP hD hS hl)
theorem g_lsub (C : gx_C X cc own Ts tys N Rm) {x y : Int64} (hdg : decode cc pc = .ok (.lsub, 1)) (pc' : Nat) (hp : pc + 1 = pc') (k : gx X cells slots ws pc' lv (.long (x - y) :: st)) : gx X cells slots ws pc lv (.long y :: .long x :: st) := by
  obtain ⟨p, l, e, R, s, m, args, below, meth, c, A, D, nL, Q⟩ := X
  subst hp
  exact fun H locs ls hP hD hS hl => lv_lsub C.1 C.2.1 hdg (k H locs ls hP hD hS hl)
theorem g_lmul (C : gx_C X cc own Ts tys N Rm) {x y : Int64} (hdg : decode cc pc = .ok (.lmul, 1)) (pc' : Nat) (hp : pc + 1 = pc') (k : gx X cells slots ws pc' lv (.long (x * y) :: st)) : gx X cells slots ws pc lv (.long y :: .long x :: st) := by
  obtain ⟨p, l, e, R, s, m, args, below, meth, c, A, D, nL, Q⟩ := X
  subst hp
  exact fun H locs ls hP hD hS hl => lv_lmul C.1 C.2.1 hdg (k H locs ls hP hD hS hl)
theorem g_land (C : gx_C X cc own Ts tys N Rm) {x y : Int64} (hdg : decode cc pc = .ok (.land, 1)) (pc' : Nat) (hp : pc + 1 = pc') (k : gx X cells slots ws pc' lv (.long (x &&& y) :: st)) : gx X cells slots ws pc lv (.long y :: .long x :: st) := by
  obtain ⟨p, l, e, R, s, m, args, below, meth, c, A, D, nL, Q⟩ := X
  subst hp
  exact fun H locs ls hP hD hS hl => lv_land C.1 C.2.1 hdg (k H locs ls hP hD hS hl)
theorem g_lor (C : gx_C X cc own Ts tys N Rm) {x y : Int64} (hdg : decode cc pc = .ok (.lor, 1)) (pc' : Nat) (hp : pc + 1 = pc') (k : gx X cells slots ws pc' lv (.long (x ||| y) :: st)) : gx X cells slots ws pc lv (.long y :: .long x :: st) := by
  obtain ⟨p, l, e, R, s, m, args, below, meth, c, A, D, nL, Q⟩ := X
  subst hp
  exact fun H locs ls hP hD hS hl => lv_lor C.1 C.2.1 hdg (k H locs ls hP hD hS hl)
theorem g_lxor (C : gx_C X cc own Ts tys N Rm) {x y : Int64} (hdg : decode cc pc = .ok (.lxor, 1)) (pc' : Nat) (hp : pc + 1 = pc') (k : gx X cells slots ws pc' lv (.long (x ^^^ y) :: st)) : gx X cells slots ws pc lv (.long y :: .long x :: st) := by
  obtain ⟨p, l, e, R, s, m, args, below, meth, c, A, D, nL, Q⟩ := X
  subst hp
  exact fun H locs ls hP hD hS hl => lv_lxor C.1 C.2.1 hdg (k H locs ls hP hD hS hl)
theorem g_ldiv (C : gx_C X cc own Ts tys N Rm) {x y : Int64} (hdg : decode cc pc = .ok (.ldiv, 1)) (pc' : Nat) (hp : pc + 1 = pc') (hne : ¬ y = 0) (k : gx X cells slots ws pc' lv (.long (x / y) :: st)) : gx X cells slots ws pc lv (.long y :: .long x :: st) := by
  obtain ⟨p, l, e, R, s, m, args, below, meth, c, A, D, nL, Q⟩ := X
  subst hp
  exact fun H locs ls hP hD hS hl => lv_ldiv C.1 C.2.1 hdg hne (k H locs ls hP hD hS hl)
theorem g_dup (C : gx_C X cc own Ts tys N Rm) {v : Value} (hdg : decode cc pc = .ok (.dup, 1)) (pc' : Nat) (hp : pc + 1 = pc') (hc : v.category = 1) (k : gx X cells slots ws pc' lv (v :: v :: st)) : gx X cells slots ws pc lv (v :: st) := by
  obtain ⟨p, l, e, R, s, m, args, below, meth, c, A, D, nL, Q⟩ := X
  subst hp
  exact fun H locs ls hP hD hS hl => lv_dup C.1 C.2.1 hdg hc (k H locs ls hP hD hS hl)
theorem g_pop (C : gx_C X cc own Ts tys N Rm) {v : Value} (hdg : decode cc pc = .ok (.pop, 1)) (pc' : Nat) (hp : pc + 1 = pc') (hc : v.category = 1) (k : gx X cells slots ws pc' lv (st)) : gx X cells slots ws pc lv (v :: st) := by
  obtain ⟨p, l, e, R, s, m, args, below, meth, c, A, D, nL, Q⟩ := X
  subst hp
  exact fun H locs ls hP hD hS hl => lv_pop C.1 C.2.1 hdg hc (k H locs ls hP hD hS hl)
theorem g_dup_x1 (C : gx_C X cc own Ts tys N Rm) {v w : Value} (hdg : decode cc pc = .ok (.dup_x1, 1)) (pc' : Nat) (hp : pc + 1 = pc') (hc : v.category = 1) (hc2 : w.category = 1) (k : gx X cells slots ws pc' lv (v :: w :: v :: st)) : gx X cells slots ws pc lv (v :: w :: st) := by
  obtain ⟨p, l, e, R, s, m, args, below, meth, c, A, D, nL, Q⟩ := X
  subst hp
  exact fun H locs ls hP hD hS hl => lv_dup_x1 C.1 C.2.1 hdg hc hc2 (k H locs ls hP hD hS hl)
theorem g_dup2_11 (C : gx_C X cc own Ts tys N Rm) {v w : Value} (hdg : decode cc pc = .ok (.dup2, 1)) (pc' : Nat) (hp : pc + 1 = pc') (hc : v.category = 1) (hc2 : w.category = 1) (k : gx X cells slots ws pc' lv (v :: w :: v :: w :: st)) : gx X cells slots ws pc lv (v :: w :: st) := by
  obtain ⟨p, l, e, R, s, m, args, below, meth, c, A, D, nL, Q⟩ := X
  subst hp
  exact fun H locs ls hP hD hS hl => lv_dup2_11 C.1 C.2.1 hdg hc hc2 (k H locs ls hP hD hS hl)
theorem g_i2l (C : gx_C X cc own Ts tys N Rm) {x : Int32} {v : Int64} (hdg : decode cc pc = .ok (.i2l, 1)) (pc' : Nat) (hp : pc + 1 = pc') (hv : x.toInt64 = v) (k : gx X cells slots ws pc' lv (.long v :: st)) : gx X cells slots ws pc lv (.int x :: st) := by
  obtain ⟨p, l, e, R, s, m, args, below, meth, c, A, D, nL, Q⟩ := X
  subst hp
  exact fun H locs ls hP hD hS hl => lv_i2l C.1 C.2.1 hdg hv (k H locs ls hP hD hS hl)
theorem g_l2i (C : gx_C X cc own Ts tys N Rm) {x : Int64} {v : Int32} (hdg : decode cc pc = .ok (.l2i, 1)) (pc' : Nat) (hp : pc + 1 = pc') (hv : x.toInt32 = v) (k : gx X cells slots ws pc' lv (.int v :: st)) : gx X cells slots ws pc lv (.long x :: st) := by
  obtain ⟨p, l, e, R, s, m, args, below, meth, c, A, D, nL, Q⟩ := X
  subst hp
  exact fun H locs ls hP hD hS hl => lv_l2i C.1 C.2.1 hdg hv (k H locs ls hP hD hS hl)
end GXA
section GXB
variable {X : gxT} {cells slots : Nat} {ws : va_W} {pc : Nat} {lv : List (Nat × Value)} {st : List Value} {cc : ByteArray} {own : String} {Ts : List Cond} {tys : List (ClassId × FieldType)} {N : Nat} {Rm : Room}
theorem g_irem (C : gx_C X cc own Ts tys N Rm) {x y : Int32} (hdg : decode cc pc = .ok (.irem, 1)) (pc' : Nat) (hp : pc + 1 = pc') (hne : ¬ y = 0) (k : gx X cells slots ws pc' lv (.int (x - x / y * y) :: st)) : gx X cells slots ws pc lv (.int y :: .int x :: st) := by
  obtain ⟨p, l, e, R, s, m, args, below, meth, c, A, D, nL, Q⟩ := X
  subst hp
  exact fun H locs ls hP hD hS hl => lv_irem C.1 C.2.1 hdg hne (k H locs ls hP hD hS hl)
theorem g_ishl (C : gx_C X cc own Ts tys N Rm) {x y : Int32} (hdg : decode cc pc = .ok (.ishl, 1)) (pc' : Nat) (hp : pc + 1 = pc') (k : gx X cells slots ws pc' lv (.int (x <<< (y &&& 31)) :: st)) : gx X cells slots ws pc lv (.int y :: .int x :: st) := by
  obtain ⟨p, l, e, R, s, m, args, below, meth, c, A, D, nL, Q⟩ := X
  subst hp
  exact fun H locs ls hP hD hS hl => lv_ishl C.1 C.2.1 hdg (k H locs ls hP hD hS hl)
theorem g_ishr (C : gx_C X cc own Ts tys N Rm) {x y : Int32} (hdg : decode cc pc = .ok (.ishr, 1)) (pc' : Nat) (hp : pc + 1 = pc') (k : gx X cells slots ws pc' lv (.int (x >>> (y &&& 31)) :: st)) : gx X cells slots ws pc lv (.int y :: .int x :: st) := by
  obtain ⟨p, l, e, R, s, m, args, below, meth, c, A, D, nL, Q⟩ := X
  subst hp
  exact fun H locs ls hP hD hS hl => lv_ishr C.1 C.2.1 hdg (k H locs ls hP hD hS hl)
theorem g_lrem (C : gx_C X cc own Ts tys N Rm) {x y : Int64} (hdg : decode cc pc = .ok (.lrem, 1)) (pc' : Nat) (hp : pc + 1 = pc') (hne : ¬ y = 0) (k : gx X cells slots ws pc' lv (.long (x - x / y * y) :: st)) : gx X cells slots ws pc lv (.long y :: .long x :: st) := by
  obtain ⟨p, l, e, R, s, m, args, below, meth, c, A, D, nL, Q⟩ := X
  subst hp
  exact fun H locs ls hP hD hS hl => lv_lrem C.1 C.2.1 hdg hne (k H locs ls hP hD hS hl)
theorem g_lcmp (C : gx_C X cc own Ts tys N Rm) {x y : Int64} (hdg : decode cc pc = .ok (.lcmp, 1)) (pc' : Nat) (hp : pc + 1 = pc') (k : gx X cells slots ws pc' lv (.int (lg_cmp x y) :: st)) : gx X cells slots ws pc lv (.long y :: .long x :: st) := by
  obtain ⟨p, l, e, R, s, m, args, below, meth, c, A, D, nL, Q⟩ := X
  subst hp
  exact fun H locs ls hP hD hS hl => W.lcmp C.1 C.2.1 hdg (k H locs ls hP hD hS hl)
theorem g_lshl (C : gx_C X cc own Ts tys N Rm) {x v : Int64} {y : Int32} (hdg : decode cc pc = .ok (.lshl, 1)) (pc' : Nat) (hp : pc + 1 = pc') (hv : x <<< (y.toInt64 &&& 63) = v) (k : gx X cells slots ws pc' lv (.long v :: st)) : gx X cells slots ws pc lv (.int y :: .long x :: st) := by
  obtain ⟨p, l, e, R, s, m, args, below, meth, c, A, D, nL, Q⟩ := X
  subst hp
  exact fun H locs ls hP hD hS hl => lv_lshl C.1 C.2.1 hdg hv (k H locs ls hP hD hS hl)
theorem g_lxx (C : gx_C X cc own Ts tys N Rm) {x : Int64} (hdg : decode cc pc = .ok (.lneg, 1)) (pc' : Nat) (hp : pc + 1 = pc') (k : gx X cells slots ws pc' lv (.long (-x) :: st)) : gx X cells slots ws pc lv (.long x :: st) := by
  obtain ⟨p, l, e, R, s, m, args, below, meth, c, A, D, nL, Q⟩ := X
  subst hp
  exact fun H locs ls hP hD hS hl => lv_lneg C.1 C.2.1 hdg (k H locs ls hP hD hS hl)
theorem g_ineg (C : gx_C X cc own Ts tys N Rm) {x : Int32} (hdg : decode cc pc = .ok (.ineg, 1)) (pc' : Nat) (hp : pc + 1 = pc') (k : gx X cells slots ws pc' lv (.int (-x) :: st)) : gx X cells slots ws pc lv (.int x :: st) := by
  obtain ⟨p, l, e, R, s, m, args, below, meth, c, A, D, nL, Q⟩ := X
  subst hp
  exact fun H locs ls hP hD hS hl => lv_ineg C.1 C.2.1 hdg (k H locs ls hP hD hS hl)
theorem g_dup2_2 (C : gx_C X cc own Ts tys N Rm) {v : Value} (hdg : decode cc pc = .ok (.dup2, 1)) (pc' : Nat) (hp : pc + 1 = pc') (hc : v.category = 2) (k : gx X cells slots ws pc' lv (v :: v :: st)) : gx X cells slots ws pc lv (v :: st) := by
  obtain ⟨p, l, e, R, s, m, args, below, meth, c, A, D, nL, Q⟩ := X
  subst hp
  exact fun H locs ls hP hD hS hl => lv_dup2_2 C.1 C.2.1 hdg hc (k H locs ls hP hD hS hl)
theorem g_dup_x2 (C : gx_C X cc own Ts tys N Rm) {v w u : Value} (hdg : decode cc pc = .ok (.dup_x2, 1)) (pc' : Nat) (hp : pc + 1 = pc') (hc : v.category = 1) (hc2 : w.category = 1) (hc3 : u.category = 1) (k : gx X cells slots ws pc' lv (v :: w :: u :: v :: st)) : gx X cells slots ws pc lv (v :: w :: u :: st) := by
  obtain ⟨p, l, e, R, s, m, args, below, meth, c, A, D, nL, Q⟩ := X
  subst hp
  exact fun H locs ls hP hD hS hl => lv_dup_x2 C.1 C.2.1 hdg hc hc2 hc3 (k H locs ls hP hD hS hl)
theorem g_icmp_eq (C : gx_C X cc own Ts tys N Rm) {x y : Int32} {off : Int} (hdg : decode cc pc = .ok (.if_icmp .eq off, 3)) (tgt pc' : Nat) (ht : (pc : Int) + off = (tgt : Int)) (hp : pc + 3 = pc') (kt : (x = y) → gx X cells slots ws tgt lv st) (kf : ¬ (x = y) → gx X cells slots ws pc' lv st) : gx X cells slots ws pc lv (.int y :: .int x :: st) := by
  obtain ⟨p, l, e, R, s, m, args, below, meth, c, A, D, nL, Q⟩ := X
  subst hp
  exact fun H locs ls hP hD hS hl => lv_icmp_eq C.1 C.2.1 hdg ht (fun h => kt h H locs ls hP hD hS hl) (fun h => kf h H locs ls hP hD hS hl)
theorem g_if_eq (C : gx_C X cc own Ts tys N Rm) {x : Int32} {off : Int} (hdg : decode cc pc = .ok (.ifCond .eq off, 3)) (tgt pc' : Nat) (ht : (pc : Int) + off = (tgt : Int)) (hp : pc + 3 = pc') (kt : (x = 0) → gx X cells slots ws tgt lv st) (kf : ¬ (x = 0) → gx X cells slots ws pc' lv st) : gx X cells slots ws pc lv (.int x :: st) := by
  obtain ⟨p, l, e, R, s, m, args, below, meth, c, A, D, nL, Q⟩ := X
  subst hp
  exact fun H locs ls hP hD hS hl => lv_if_eq C.1 C.2.1 hdg ht (fun h => kt h H locs ls hP hD hS hl) (fun h => kf h H locs ls hP hD hS hl)
theorem g_icmp_ne (C : gx_C X cc own Ts tys N Rm) {x y : Int32} {off : Int} (hdg : decode cc pc = .ok (.if_icmp .ne off, 3)) (tgt pc' : Nat) (ht : (pc : Int) + off = (tgt : Int)) (hp : pc + 3 = pc') (kt : (¬ x = y) → gx X cells slots ws tgt lv st) (kf : x = y → gx X cells slots ws pc' lv st) : gx X cells slots ws pc lv (.int y :: .int x :: st) := by
  obtain ⟨p, l, e, R, s, m, args, below, meth, c, A, D, nL, Q⟩ := X
  subst hp
  exact fun H locs ls hP hD hS hl => lv_icmp_ne C.1 C.2.1 hdg ht (fun h => kt h H locs ls hP hD hS hl) (fun h => kf h H locs ls hP hD hS hl)
theorem g_if_ne (C : gx_C X cc own Ts tys N Rm) {x : Int32} {off : Int} (hdg : decode cc pc = .ok (.ifCond .ne off, 3)) (tgt pc' : Nat) (ht : (pc : Int) + off = (tgt : Int)) (hp : pc + 3 = pc') (kt : (¬ x = 0) → gx X cells slots ws tgt lv st) (kf : x = 0 → gx X cells slots ws pc' lv st) : gx X cells slots ws pc lv (.int x :: st) := by
  obtain ⟨p, l, e, R, s, m, args, below, meth, c, A, D, nL, Q⟩ := X
  subst hp
  exact fun H locs ls hP hD hS hl => lv_if_ne C.1 C.2.1 hdg ht (fun h => kt h H locs ls hP hD hS hl) (fun h => kf h H locs ls hP hD hS hl)
theorem g_icmp_lt (C : gx_C X cc own Ts tys N Rm) {x y : Int32} {off : Int} (hdg : decode cc pc = .ok (.if_icmp .lt off, 3)) (tgt pc' : Nat) (ht : (pc : Int) + off = (tgt : Int)) (hp : pc + 3 = pc') (kt : (x < y) → gx X cells slots ws tgt lv st) (kf : ¬ (x < y) → gx X cells slots ws pc' lv st) : gx X cells slots ws pc lv (.int y :: .int x :: st) := by
  obtain ⟨p, l, e, R, s, m, args, below, meth, c, A, D, nL, Q⟩ := X
  subst hp
  exact fun H locs ls hP hD hS hl => lv_icmp_lt C.1 C.2.1 hdg ht (fun h => kt h H locs ls hP hD hS hl) (fun h => kf h H locs ls hP hD hS hl)
theorem g_if_lt (C : gx_C X cc own Ts tys N Rm) {x : Int32} {off : Int} (hdg : decode cc pc = .ok (.ifCond .lt off, 3)) (tgt pc' : Nat) (ht : (pc : Int) + off = (tgt : Int)) (hp : pc + 3 = pc') (kt : (x < 0) → gx X cells slots ws tgt lv st) (kf : ¬ (x < 0) → gx X cells slots ws pc' lv st) : gx X cells slots ws pc lv (.int x :: st) := by
  obtain ⟨p, l, e, R, s, m, args, below, meth, c, A, D, nL, Q⟩ := X
  subst hp
  exact fun H locs ls hP hD hS hl => lv_if_lt C.1 C.2.1 hdg ht (fun h => kt h H locs ls hP hD hS hl) (fun h => kf h H locs ls hP hD hS hl)
theorem g_icmp_ge (C : gx_C X cc own Ts tys N Rm) {x y : Int32} {off : Int} (hdg : decode cc pc = .ok (.if_icmp .ge off, 3)) (tgt pc' : Nat) (ht : (pc : Int) + off = (tgt : Int)) (hp : pc + 3 = pc') (kt : (y ≤ x) → gx X cells slots ws tgt lv st) (kf : ¬ (y ≤ x) → gx X cells slots ws pc' lv st) : gx X cells slots ws pc lv (.int y :: .int x :: st) := by
  obtain ⟨p, l, e, R, s, m, args, below, meth, c, A, D, nL, Q⟩ := X
  subst hp
  exact fun H locs ls hP hD hS hl => lv_icmp_ge C.1 C.2.1 hdg ht (fun h => kt h H locs ls hP hD hS hl) (fun h => kf h H locs ls hP hD hS hl)
theorem g_if_ge (C : gx_C X cc own Ts tys N Rm) {x : Int32} {off : Int} (hdg : decode cc pc = .ok (.ifCond .ge off, 3)) (tgt pc' : Nat) (ht : (pc : Int) + off = (tgt : Int)) (hp : pc + 3 = pc') (kt : (0 ≤ x) → gx X cells slots ws tgt lv st) (kf : ¬ (0 ≤ x) → gx X cells slots ws pc' lv st) : gx X cells slots ws pc lv (.int x :: st) := by
  obtain ⟨p, l, e, R, s, m, args, below, meth, c, A, D, nL, Q⟩ := X
  subst hp
  exact fun H locs ls hP hD hS hl => lv_if_ge C.1 C.2.1 hdg ht (fun h => kt h H locs ls hP hD hS hl) (fun h => kf h H locs ls hP hD hS hl)
theorem g_icmp_gt (C : gx_C X cc own Ts tys N Rm) {x y : Int32} {off : Int} (hdg : decode cc pc = .ok (.if_icmp .gt off, 3)) (tgt pc' : Nat) (ht : (pc : Int) + off = (tgt : Int)) (hp : pc + 3 = pc') (kt : (y < x) → gx X cells slots ws tgt lv st) (kf : ¬ (y < x) → gx X cells slots ws pc' lv st) : gx X cells slots ws pc lv (.int y :: .int x :: st) := by
  obtain ⟨p, l, e, R, s, m, args, below, meth, c, A, D, nL, Q⟩ := X
  subst hp
  exact fun H locs ls hP hD hS hl => lv_icmp_gt C.1 C.2.1 hdg ht (fun h => kt h H locs ls hP hD hS hl) (fun h => kf h H locs ls hP hD hS hl)
theorem g_if_gt (C : gx_C X cc own Ts tys N Rm) {x : Int32} {off : Int} (hdg : decode cc pc = .ok (.ifCond .gt off, 3)) (tgt pc' : Nat) (ht : (pc : Int) + off = (tgt : Int)) (hp : pc + 3 = pc') (kt : (0 < x) → gx X cells slots ws tgt lv st) (kf : ¬ (0 < x) → gx X cells slots ws pc' lv st) : gx X cells slots ws pc lv (.int x :: st) := by
  obtain ⟨p, l, e, R, s, m, args, below, meth, c, A, D, nL, Q⟩ := X
  subst hp
  exact fun H locs ls hP hD hS hl => lv_if_gt C.1 C.2.1 hdg ht (fun h => kt h H locs ls hP hD hS hl) (fun h => kf h H locs ls hP hD hS hl)
theorem g_icmp_le (C : gx_C X cc own Ts tys N Rm) {x y : Int32} {off : Int} (hdg : decode cc pc = .ok (.if_icmp .le off, 3)) (tgt pc' : Nat) (ht : (pc : Int) + off = (tgt : Int)) (hp : pc + 3 = pc') (kt : (x ≤ y) → gx X cells slots ws tgt lv st) (kf : ¬ (x ≤ y) → gx X cells slots ws pc' lv st) : gx X cells slots ws pc lv (.int y :: .int x :: st) := by
  obtain ⟨p, l, e, R, s, m, args, below, meth, c, A, D, nL, Q⟩ := X
  subst hp
  exact fun H locs ls hP hD hS hl => lv_icmp_le C.1 C.2.1 hdg ht (fun h => kt h H locs ls hP hD hS hl) (fun h => kf h H locs ls hP hD hS hl)
theorem g_if_le (C : gx_C X cc own Ts tys N Rm) {x : Int32} {off : Int} (hdg : decode cc pc = .ok (.ifCond .le off, 3)) (tgt pc' : Nat) (ht : (pc : Int) + off = (tgt : Int)) (hp : pc + 3 = pc') (kt : (x ≤ 0) → gx X cells slots ws tgt lv st) (kf : ¬ (x ≤ 0) → gx X cells slots ws pc' lv st) : gx X cells slots ws pc lv (.int x :: st) := by
  obtain ⟨p, l, e, R, s, m, args, below, meth, c, A, D, nL, Q⟩ := X
  subst hp
  exact fun H locs ls hP hD hS hl => lv_if_le C.1 C.2.1 hdg ht (fun h => kt h H locs ls hP hD hS hl) (fun h => kf h H locs ls hP hD hS hl)
theorem g_goto (C : gx_C X cc own Ts tys N Rm) {off : Int} (hdg : decode cc pc = .ok (.goto off, 3)) (tgt : Nat) (ht : (pc : Int) + off = (tgt : Int)) (k : gx X cells slots ws tgt lv st) : gx X cells slots ws pc lv st := by
  obtain ⟨p, l, e, R, s, m, args, below, meth, c, A, D, nL, Q⟩ := X
  exact fun H locs ls hP hD hS hl => lv_goto C.1 C.2.1 hdg ht (k H locs ls hP hD hS hl)
end GXB
