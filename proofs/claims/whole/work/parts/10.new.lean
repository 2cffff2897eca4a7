/-! rows that make things, and Object's constructor -/
section GXM
variable {X : gxT} {cells slots : Nat} {ws : va_W} {pc : Nat} {lv : List (Nat × Value)} {st : List Value} {cc : ByteArray} {own : String} {Ts : List Cond} {tys : List (ClassId × FieldType)} {N : Nat} {Rm : Room}
theorem g_objInit (C : gx_C X cc own Ts tys N Rm) {idx a : Nat} (h1 : Cond.methodLink own idx objectInit ∈ Ts) (h2 : Cond.instanceMethod objectInit ∈ Ts) (h3 : Cond.code objectInit ⟨#[0xb1]⟩ 1 none ∈ Ts) (hdg : decode cc pc = .ok (.invokespecial idx, 3)) (pc' : Nat) (hp : pc + 3 = pc') (hf : 1 ≤ Rm.frames) (hlo : 0 + (st.map fun v => v.category).sum + 12 ≤ Rm.locals) (k : gx X cells slots ws pc' lv st) : gx X cells slots ws pc lv (.ref a :: st) := by
  obtain ⟨p, l, e, R, s, m, args, below, meth, c, A, D, nL, Q⟩ := X
  subst hp
  have hRm : R = Rm := C.2.2.2.2.2.2.2.2
  subst hRm
  intro H locs ls hP hD hS hl
  exact W.objInit C.1 C.2.1 C.2.2.2.1 (C.2.2.2.2.1 _ h1) (C.2.2.2.2.1 _ h2) (C.2.2.2.2.1 _ h3) rfl (hl.1.trans C.2.2.1.symm) rfl hdg hf hlo (k H locs ls hP hD hS hl)
theorem g_newa_int (C : gx_C X cc own Ts tys N Rm) (t0 : Nat) {cA : ClassId} (ht : tys[t0]? = some (cA, .int)) {n : Nat} (hn : n < 65536) (harr : Cond.arrayClass .int ∈ Ts) (hdg : decode cc pc = .ok (.newarray .int, 2)) (pc' : Nat) (hp : pc + 2 = pc') (hcells : cells + 1 ≤ Rm.cells) (hslots : slots + n ≤ Rm.slots)
    (k : ∀ q : Nat, gx X (cells + 1) (slots + n) (ws ++ [(q, .inl (cA, n, .inl (fun _ => 0)))]) pc' lv (.ref q :: st)) : gx X cells slots ws pc lv (.int (nI n) :: st) := by
  obtain ⟨p, l, e, R, s, m, args, below, meth, c, A, D, nL, Q⟩ := X
  subst hp
  have hRm : R = Rm := C.2.2.2.2.2.2.2.2
  subst hRm
  intro H locs ls hP hD hS hl
  refine va_newa (atype := .int) (ty := .int) (a0 := (n, .inl (fun _ => 0))) C.1 C.2.1 (C.2.2.2.2.1 _ harr) rfl C.2.2.2.2.2.1 hP hD hS C.2.2.2.2.2.2.1 (fun _ => rfl) (nI_pos (by omega)) (nI_clamp (by omega)) (by show n * 4 ≤ _; omega) hcells hslots hdg (fun q cA2 H1 hK2 hP2 hD2 hS2 => ?_)
  have e1 := va_nm_int (C.2.2.2.2.2.1.2 t0 _ ht).2
  have e2 := va_nm_int (hK2.2 tys.length (cA2, .int) (by rw [List.getElem?_append_right (Nat.le_refl _), Nat.sub_self]; rfl)).2
  cases Option.some.inj (e1.symm.trans e2)
  exact k q H1 locs ls hP2 hD2 hS2 hl
theorem g_newa_long (C : gx_C X cc own Ts tys N Rm) (t0 : Nat) {cA : ClassId} (ht : tys[t0]? = some (cA, .long)) {n : Nat} (hn : n < 65536) (harr : Cond.arrayClass .long ∈ Ts) (hdg : decode cc pc = .ok (.newarray .long, 2)) (pc' : Nat) (hp : pc + 2 = pc') (hcells : cells + 1 ≤ Rm.cells) (hslots : slots + n ≤ Rm.slots)
    (k : ∀ q : Nat, gx X (cells + 1) (slots + n) (ws ++ [(q, .inl (cA, n, .inr (.inl (fun _ => 0))))]) pc' lv (.ref q :: st)) : gx X cells slots ws pc lv (.int (nI n) :: st) := by
  obtain ⟨p, l, e, R, s, m, args, below, meth, c, A, D, nL, Q⟩ := X
  subst hp
  have hRm : R = Rm := C.2.2.2.2.2.2.2.2
  subst hRm
  intro H locs ls hP hD hS hl
  refine va_newa (atype := .long) (ty := .long) (a0 := (n, .inr (.inl (fun _ => 0)))) C.1 C.2.1 (C.2.2.2.2.1 _ harr) rfl C.2.2.2.2.2.1 hP hD hS C.2.2.2.2.2.2.1 (fun _ => rfl) (nI_pos (by omega)) (nI_clamp (by omega)) (by show n * 8 ≤ _; omega) hcells hslots hdg (fun q cA2 H1 hK2 hP2 hD2 hS2 => ?_)
  have e1 := va_nm_long (C.2.2.2.2.2.1.2 t0 _ ht).2
  have e2 := va_nm_long (hK2.2 tys.length (cA2, .long) (by rw [List.getElem?_append_right (Nat.le_refl _), Nat.sub_self]; rfl)).2
  cases Option.some.inj (e1.symm.trans e2)
  exact k q H1 locs ls hP2 hD2 hS2 hl
theorem g_newa_boolean (C : gx_C X cc own Ts tys N Rm) (t0 : Nat) {cA : ClassId} (ht : tys[t0]? = some (cA, .boolean)) {n : Nat} (hn : n < 65536) (harr : Cond.arrayClass .boolean ∈ Ts) (hdg : decode cc pc = .ok (.newarray .boolean, 2)) (pc' : Nat) (hp : pc + 2 = pc') (hcells : cells + 1 ≤ Rm.cells) (hslots : slots + n ≤ Rm.slots)
    (k : ∀ q : Nat, gx X (cells + 1) (slots + n) (ws ++ [(q, .inl (cA, n, .inl (fun _ => 0)))]) pc' lv (.ref q :: st)) : gx X cells slots ws pc lv (.int (nI n) :: st) := by
  obtain ⟨p, l, e, R, s, m, args, below, meth, c, A, D, nL, Q⟩ := X
  subst hp
  have hRm : R = Rm := C.2.2.2.2.2.2.2.2
  subst hRm
  intro H locs ls hP hD hS hl
  refine va_newa (atype := .boolean) (ty := .boolean) (a0 := (n, .inl (fun _ => 0))) C.1 C.2.1 (C.2.2.2.2.1 _ harr) rfl C.2.2.2.2.2.1 hP hD hS C.2.2.2.2.2.2.1 (fun _ => rfl) (nI_pos (by omega)) (nI_clamp (by omega)) (by show n * 1 ≤ _; omega) hcells hslots hdg (fun q cA2 H1 hK2 hP2 hD2 hS2 => ?_)
  have e1 := va_nm_boolean (C.2.2.2.2.2.1.2 t0 _ ht).2
  have e2 := va_nm_boolean (hK2.2 tys.length (cA2, .boolean) (by rw [List.getElem?_append_right (Nat.le_refl _), Nat.sub_self]; rfl)).2
  cases Option.some.inj (e1.symm.trans e2)
  exact k q H1 locs ls hP2 hD2 hS2 hl
theorem g_new (C : gx_C X cc own Ts tys N Rm) {Cn : String} {T : u_T} {n ci index : Nat} {fs : List Value} (hin : ∀ w ∈ u_ws Cn T n, w ∈ Ts) (ty : Nat → FieldType) (hty : ∀ k, k < n → parseFieldDescriptor (T k).2.2.1 = some (ty k)) (hcl : Cond.classLink own index Cn ∈ Ts) (hinst : Cond.instantiable Cn n ∈ Ts) (hini : Cond.initialized Cn ∈ Ts) (hc : vwCl[ci]? = some (Cn, T, n)) (hfs : ∀ j, j < n → defaultValue (ty j) = vp_V fs j) (hcells : cells + 1 ≤ Rm.cells) (hslots : slots + n ≤ Rm.slots) (hdg : decode cc pc = .ok (.new index, 3)) (pc' : Nat) (hp : pc + 3 = pc')
    (k : ∀ q : Nat, gx X (cells + 1) (slots + n) (ws ++ [(q, .inr (ci, fs))]) pc' lv (.ref q :: st)) : gx X cells slots ws pc lv st := by
  obtain ⟨p, l, e, R, s, m, args, below, meth, c, A, D, nL, Q⟩ := X
  subst hp
  have hRm : R = Rm := C.2.2.2.2.2.2.2.2
  subst hRm
  intro H locs ls hP hD hS hl
  exact va_new C.1 C.2.1 C.2.2.2.2.1 hin ty hty C.2.2.2.1 (C.2.2.2.2.1 _ hcl) (C.2.2.2.2.1 _ hinst) (C.2.2.2.2.1 _ hini) C.2.2.2.2.2.1 hP hD hS C.2.2.2.2.2.2.1 hc hfs hcells hslots hdg (fun q H1 hP2 hD2 hS2 => k q H1 locs ls hP2 hD2 hS2 hl)
end GXM
