def dOnes (j : Nat) : Value := .int (nI (48 + j % 10))
def dTens (j : Nat) : Value := .int (nI (48 + j / 10))
/-- the JDK's statics that the calls of a StringBuilder read -/
def stt (A : Nat → Prop) (U : State) (H : Heap) : Prop := va_Z "java/lang/String" "COMPACT_STRINGS" "Z" (.int 1) A U H ∧ va_Zq "jdk/internal/util/Preconditions" "SIOOBE_FORMATTER" "Ljava/util/function/BiFunction;" A U H ∧ (∃ t, va_Z "java/lang/Integer" "DigitOnes" "[B" (.ref t) A U H ∧ va_T .byte t 100 dOnes A U H) ∧ ∃ t, va_Z "java/lang/Integer" "DigitTens" "[B" (.ref t) A U H ∧ va_T .byte t 100 dTens A U H
theorem stt.to {A B : Nat → Prop} {s U : State} {H : Heap} {locs : List Loc} (h : stt A s s.heap) (hS : va_S A s.heap H locs) (hB : ∀ q, B q → A q) (hU : U.heap = H) (hW : s.WarmedH U.vm) : stt B U U.heap := by
  obtain ⟨h1, h2, ⟨t3, h3, h4⟩, ⟨t5, h5, h6⟩⟩ := h
  rw [hU]
  exact ⟨((h1.kept hS.2.1).narrow hB).moved hW.alike, ((h2.kept hS.2.1).narrow hB).moved hW.alike, ⟨t3, ((h3.kept hS.2.1).narrow hB).moved hW.alike, ((h4.kept hS.2.1).narrow hB).moved hW.alike⟩, ⟨t5, ((h5.kept hS.2.1).narrow hB).moved hW.alike, ((h6.kept hS.2.1).narrow hB).moved hW.alike⟩⟩
theorem stt.blind {A : Nat → Prop} {U : State} (a : Array Value) (g : JFrame) (mk : MethodId) (h : stt A U U.heap) : stt A (U.calling g mk a) (U.calling g mk a).heap := by
  obtain ⟨h1, h2, ⟨t3, h3, h4⟩, ⟨t5, h5, h6⟩⟩ := h
  have r := Vm.Alike.refl U.vm
  exact ⟨h1.moved (U := U.calling g mk a) r, h2.moved (U := U.calling g mk a) r, ⟨t3, h3.moved (U := U.calling g mk a) r, h4.moved (U := U.calling g mk a) r⟩, ⟨t5, h5.moved (U := U.calling g mk a) r, h6.moved (U := U.calling g mk a) r⟩⟩
abbrev pS (WS : va_W) (sz : Nat) : State → Prop := fun U => stt (va_A WS sz) U U.heap
abbrev pTs (l : Launch) (nw : List (String × Nat × MethodName × String)) (WS : va_W) (sz : Nat) : State → Prop := fun U => pT l nw WS sz U ∧ pS WS sz U
abbrev pN (nw : List (String × Nat × MethodName × String)) (WS : va_W) (sz : Nat) : State → Prop := fun U => nst nw U ∧ pS WS sz U
theorem gx_stt {X : gxT} {WC : va_W} (h : stt (gx_A X) (gx_s X) (gx_s X).heap) : gx_XPs X WC (fun sz => pS WC sz) :=
  ⟨fun _ a _ g mk q => q.blind a g mk, fun _ _ _ hS hB hU hW => h.to hS hB hU hW⟩
theorem gx_XPs0 {X : gxT} {WC : va_W} : gx_XPs X WC (fun _ _ => True) := ⟨fun _ _ _ _ _ _ => trivial, fun _ _ _ _ _ _ _ => trivial⟩
/-- a premise that doesn't speak of the cells -/
theorem gx_XPsN {X : gxT} {WC : va_W} {XP : State → Prop} (h : gx_XP X XP) : gx_XPs X WC (fun _ => XP) := ⟨fun _ a U g mk => h.1 a U g mk, fun H locs U hS _ hU hW => h.2 H locs U hS hU hW⟩
/-- an answer that is a cell's address -/
abbrev qR {S : Type} (D : va_G) (tys : List (ClassId × FieldType)) (A : Nat → Prop) (W1 : S → va_W) (ad : Nat) : S → Nat → State → Prop := fun u a t => a = ad ∧ qW D tys A W1 u t
section GXJ
variable {X : gxT} {cells slots : Nat} {ws : va_W} {pc : Nat} {lv : List (Nat × Value)} {st : List Value} {cc : ByteArray} {own : String} {Ts : List Cond} {tys : List (ClassId × FieldType)} {N : Nat} {Rm : Room}
theorem g_gets (C : gx_C X cc own Ts tys N Rm) {Cs n d : String} {v : Value} {index : Nat} (hZ : va_Z Cs n d v (gx_A X) (gx_s X) (gx_s X).heap) (hlink : Cond.fieldLink own index Cs n d ∈ Ts) (hdg : decode cc pc = .ok (.getstatic index, 3)) (pc' : Nat) (hp : pc + 3 = pc') (k : gx X cells slots ws pc' lv (v :: st)) : gx X cells slots ws pc lv st := by
  obtain ⟨p, l, e, R, s, m, args, below, meth, c, A, D, nL, Q⟩ := X
  subst hp
  exact fun H locs ls hP hD hS hl => va_gets C.1 C.2.1 hZ hS C.2.2.2.1 (C.2.2.2.2.1 _ hlink) (fun _ h => h) hdg (k H locs ls hP hD hS hl)
theorem g_tb (C : gx_C X cc own Ts tys N Rm) {t NN : Nat} {f : Nat → Value} (hT : va_T .byte t NN f (gx_A X) (gx_s X) (gx_s X).heap) {i : Int32} {v : Value} (j : Nat) (hi : i = nI j) (hj : j < NN) (hn : NN < 2 ^ 31) (hv : f j = v) (hdg : decode cc pc = .ok (.baload, 1)) (pc' : Nat) (hp : pc + 1 = pc') (k : gx X cells slots ws pc' lv (v :: st)) : gx X cells slots ws pc lv (.int i :: .ref t :: st) := by
  obtain ⟨p, l, e, R, s, m, args, below, meth, c, A, D, nL, Q⟩ := X
  subst hp
  subst hi
  exact fun H locs ls hP hD hS hl => va_tb C.1 C.2.1 hT hS (vp_in_nI hj hn) (by rw [nI_clamp (Nat.lt_trans hj hn)]; exact hv) hdg (k H locs ls hP hD hS hl)
theorem g_bast (C : gx_C X cc own Ts tys N Rm) (q0 t0 : Nat) {cA : ClassId} {a n : Nat} {f : Nat → Int32} (ha : ws[q0]? = some (a, .inl (cA, n, .inl f))) (ht : tys[t0]? = some (cA, .byte)) {i : Int32} {x : Int32} (j : Nat) (hi : i = nI j) (hj : j < n) (hn : n < 2 ^ 31) (hdg : decode cc pc = .ok (.bastore, 1)) (pc' : Nat) (hp : pc + 1 = pc') {ws' : va_W} (hw : ws.set q0 (a, .inl (cA, n, .inl (upd f j (vp_nar .byte x)))) = ws') (k : gx X cells slots ws' pc' lv st) : gx X cells slots ws pc lv (.int x :: .int i :: .ref a :: st) := by
  obtain ⟨p, l, e, R, s, m, args, below, meth, c, A, D, nL, Q⟩ := X
  subst hp
  subst hi
  subst hw
  refine fun H locs ls hP hD hS hl => va_bast C.1 C.2.1 C.2.2.2.2.2.1 hP hD hS q0 t0 ha ht (vp_in_nI hj hn) hdg (fun H1 locs1 hP hD hS => ?_)
  rw [nI_clamp (Nat.lt_trans hj hn)] at hP hD
  exact k H1 locs1 ls hP hD hS hl
theorem g_newa_byte (C : gx_C X cc own Ts tys N Rm) (t0 : Nat) {cA : ClassId} (ht : tys[t0]? = some (cA, .byte)) {n : Nat} (hn : n < 65536) (harr : Cond.arrayClass .byte ∈ Ts) (hdg : decode cc pc = .ok (.newarray .byte, 2)) (pc' : Nat) (hp : pc + 2 = pc') (hcells : cells + 1 ≤ Rm.cells) (hslots : slots + n ≤ Rm.slots)
    (k : ∀ q : Nat, gx X (cells + 1) (slots + n) (ws ++ [(q, .inl (cA, n, .inl (fun _ => 0)))]) pc' lv (.ref q :: st)) : gx X cells slots ws pc lv (.int (nI n) :: st) := by
  obtain ⟨p, l, e, R, s, m, args, below, meth, c, A, D, nL, Q⟩ := X
  subst hp
  have hRm : R = Rm := C.2.2.2.2.2.2.2.2
  subst hRm
  intro H locs ls hP hD hS hl
  refine va_newa (atype := .byte) (ty := .byte) (a0 := (n, .inl (fun _ => 0))) C.1 C.2.1 (C.2.2.2.2.1 _ harr) rfl C.2.2.2.2.2.1 hP hD hS C.2.2.2.2.2.2.1 (fun _ => rfl) (nI_pos (by omega)) (nI_clamp (by omega)) (by show n * 1 ≤ _; omega) hcells hslots hdg (fun q cA2 H1 hK2 hP2 hD2 hS2 => ?_)
  have e1 := va_nm_byte (C.2.2.2.2.2.1.2 t0 _ ht).2
  have e2 := va_nm_byte (hK2.2 tys.length (cA2, .byte) (by rw [List.getElem?_append_right (Nat.le_refl _), Nat.sub_self]; rfl)).2
  cases Option.some.inj (e1.symm.trans e2)
  exact k q H1 locs ls hP2 hD2 hS2 hl
theorem g_i2b (C : gx_C X cc own Ts tys N Rm) {x v : Int32} (hdg : decode cc pc = .ok (.i2b, 1)) (pc' : Nat) (hp : pc + 1 = pc') (hv : x.toInt8.toInt32 = v) (k : gx X cells slots ws pc' lv (.int v :: st)) : gx X cells slots ws pc lv (.int x :: st) := by
  obtain ⟨p, l, e, R, s, m, args, below, meth, c, A, D, nL, Q⟩ := X
  subst hp
  exact fun H locs ls hP hD hS hl => lv_i2b C.1 C.2.1 hdg hv (k H locs ls hP hD hS hl)
theorem g_i2c (C : gx_C X cc own Ts tys N Rm) {x v : Int32} (hdg : decode cc pc = .ok (.i2c, 1)) (pc' : Nat) (hp : pc + 1 = pc') (hv : (x.toUInt32 % 65536).toInt32 = v) (k : gx X cells slots ws pc' lv (.int v :: st)) : gx X cells slots ws pc lv (.int x :: st) := by
  obtain ⟨p, l, e, R, s, m, args, below, meth, c, A, D, nL, Q⟩ := X
  subst hp
  exact fun H locs ls hP hD hS hl => lv_i2c C.1 C.2.1 hdg hv (k H locs ls hP hD hS hl)
theorem g_minn (C : gx_C X cc own Ts tys N Rm) {index a b : Nat} (h1 : Cond.methodLink own index Lib.Math.min.name ∈ Ts) (h2 : Cond.static Lib.Math.min.name ∈ Ts) (h3 : Cond.initialized "java/lang/Math" ∈ Ts) (h4 : Cond.code Lib.Math.min.name Lib.Math.min.code 2 (some .int) ∈ Ts) (hdg : decode cc pc = .ok (.invokestatic index, 3)) (pc' : Nat) (hp : pc + 3 = pc') (hf : 1 ≤ Rm.frames) (hlo : (st.map fun v => v.category).sum + 13 ≤ Rm.locals) (hc : cells ≤ Rm.cells) (hs : slots ≤ Rm.slots) (hab : a ≤ b) (hb : b < 2147483648) (k : gx X cells slots ws pc' lv (.int (nI a) :: st)) : gx X cells slots ws pc lv (.int (nI b) :: .int (nI a) :: st) := by
  obtain ⟨p, l, e, R, s, m, args, below, meth, c, A, D, nL, Q⟩ := X
  subst hp
  have hRm : R = Rm := C.2.2.2.2.2.2.2.2
  subst hRm
  intro H locs ls hP hD hS hl
  refine va_mmin C.1 C.2.1 (C.2.2.1.trans hl.1.symm) C.2.2.2.1 (C.2.2.2.2.1 _ h1) (C.2.2.2.2.1 _ h2) (C.2.2.2.2.1 _ h3) (C.2.2.2.2.1 _ h4) hf hlo hc hs hdg ?_
  rw [if_neg (show ¬ nI b < nI a from nI_nlt hab (by omega))]
  exact k H locs ls hP hD hS hl
theorem g_cret {S : Type} {post : Int32 → S → Prop} {W1 : S → va_W} {mc ms : Nat} {v : Int32} (C : gx_C X cc own Ts tys N Rm) (hQ : gx_Q X (some .char) (va_Qi post (qW (gx_D X) tys (gx_A X) W1) (gx_A X)) mc ms) (hc : cells ≤ mc) (hs : slots ≤ ms) (hdg : decode cc pc = .ok (.ireturn, 1)) (hn : narrow .char (.int v) = .int v) (u : S) (hu : post v u) (hw : ws = W1 u) : gx X cells slots ws pc lv [.int v] := by
  obtain ⟨p, l, e, R, s, m, args, below, meth, c, A, D, nL, Q⟩ := X
  obtain ⟨hr, hlocks, hQe⟩ := hQ
  have hQe : Q = MQ below (va_Qi post (qW D tys A W1) A) args s mc ms A := hQe
  subst hQe
  subst hw
  refine g_widen hc hs ?_
  intro H locs ls hP hD hS hl
  exact W.zret (v := v) C.1 C.2.1 hr hn (fun t ht hW => ⟨⟨v, u, rfl, hu, by rw [ht]; exact hP, va_K.moved hW.alike C.2.2.2.2.2.1, hD⟩, hS.F ht⟩) hS.2.2 hdg
theorem g_aret {S : Type} {post : S → Prop} {W1 : S → va_W} {mc ms a : Nat} {cn : String} (C : gx_C X cc own Ts tys N Rm) (hQ : gx_Q X (some (.object cn)) (va_Qr post (qR (gx_D X) tys (gx_A X) W1 a) (gx_A X)) mc ms) (hc : cells ≤ mc) (hs : slots ≤ ms) (hdg : decode cc pc = .ok (.areturn, 1)) (u : S) (hu : post u) (hw : ws = W1 u) : gx X cells slots ws pc lv [.ref a] := by
  obtain ⟨p, l, e, R, s, m, args, below, meth, c, A, D, nL, Q⟩ := X
  obtain ⟨hr, hlocks, hQe⟩ := hQ
  have hQe : Q = MQ below (va_Qr post (qR D tys A W1 a) A) args s mc ms A := hQe
  subst hQe
  subst hw
  refine g_widen hc hs ?_
  intro H locs ls hP hD hS hl
  exact W.aret C.1 C.2.1 hr (Or.inl ⟨cn, rfl⟩) (Or.inr ⟨a, rfl⟩) (fun t ht hW => ⟨⟨u, a, rfl, hu, rfl, by rw [ht]; exact hP, va_K.moved hW.alike C.2.2.2.2.2.1, hD⟩, hS.F ht⟩) hS.2.2 hdg
theorem g_callVis {S : Type} (C : gx_C X cc own Ts tys N Rm) {y : MethodName} {wsY wsY' : List Cond} {rm : Room} {As rest : List Value} {WC : va_W} {W1 : S → va_W} {XP : Nat → State → Prop} {post : Int32 → S → Prop} {mc ms index maxL : Nat} {bytes : ByteArray} {b : Nat} {Cn : String} {Tn : u_T} {Nn ci q0 : Nat} {fs : List Value} {ret : Option FieldType}
    (hM : ∀ sz, Met (gx_l X) y wsY rm (va_Pc (.ref b :: As) (pW (gx_D X) tys WC (XP sz) sz)) (va_Qi post (qW (gx_D X) tys (va_A WC sz) W1) (va_A WC sz)) mc ms (va_A WC sz)) (hXP : gx_XPs X WC XP)
    (n : Nat) (hg : GoodIn Ts (wsV own index Cn y wsY)) (hw : wsY = Cond.code y bytes maxL ret :: wsY') (hrc : rm.cells = mc) (hrs : rm.slots = ms) (hd : y.cls = Cn ∧ y.cls ≠ "java/lang/invoke/MethodHandle" ∧ y.cls ≠ "java/lang/invoke/VarHandle" ∧ (parseMethodDescriptor y.desc).map (fun d => d.parameters.length) = some n) (hR : rm.frames + 1 ≤ Rm.frames ∧ 8 + (maxL + 11) + rm.locals ≤ Rm.locals)
    (hci : vwCl[ci]? = some (Cn, Tn, Nn)) (hq0 : WC[q0]? = some (b, .inr (ci, fs))) (isC isR perm : List Nat) {wr : va_W} {ws' : S → va_W} (hC : isC.map (fun i => ws[i]?) = WC.map some) (hcn : va_nd isC = true) (hRr : isR.map (fun i => ws[i]?) = wr.map some) (hnd : va_nd isR = true) (hdis : ∀ i ∈ isR, i ∉ isC) (hperm : ∀ u, perm.map (fun i => (wr ++ W1 u)[i]?) = (ws' u).map some) (hpn : va_nd perm = true)
    (hn : As.length = n) (hst : st = As.reverse ++ .ref b :: rest) (hW : (rest.map fun v => v.category).sum ≤ 8) (hdg : decode cc pc = .ok (.invokevirtual index, 3)) (hf : cells + mc ≤ Rm.cells ∧ slots + ms ≤ Rm.slots) (pc' : Nat) (hp : pc + 3 = pc')
    (k : ∀ r u, post r u → gx X (cells + mc) (slots + ms) (ws' u) pc' lv (.int r :: rest)) : gx X cells slots ws pc lv st := by
  obtain ⟨p, l, e, R, s, m, args, below, meth, c, A, D, nL, Q⟩ := X
  subst hp
  subst hst
  have hRm : R = Rm := C.2.2.2.2.2.2.2.2
  subst hRm
  intro H locs ls hP hD hS hl
  have hPc := hP.sub (ws' := WC) isC (fm_of_map hC)
  have hDc := hD.sub (ws' := WC) isC hcn hC
  have hFc := va_free (wc := WC) hD hS C.2.2.2.2.2.2.1 isC hC
  refine va_calli (va_runV (As := As) (rest := rest) ⟨C.1, C.2.1, C.2.2.1, C.2.2.2.1, C.2.2.2.2.1⟩ (hM H.size) (cwV n C.2.2.2.2.1 hg hw hrc hrs hd hR) ⟨fun a U g mk q => by obtain ⟨e0, q0, qP, qK, qD, qX⟩ := q; exact ⟨e0, q0, qP, va_K.moved (u := U) (U := U.calling g mk a) (Vm.Alike.refl U.vm) qK, qD, hXP.1 H.size a U g mk qX⟩, va_recv C.2.2.2.2.2.1 hPc hci hq0, fun U hU hW => ⟨rfl, by rw [hU], by rw [hU]; exact hPc, va_K.moved hW.alike C.2.2.2.2.2.1, hDc.weaken (fun _ _ _ _ => trivial), hXP.2 H locs U hS hFc hU hW⟩⟩ rfl hn hl.1 rfl (lv_room hW) hdg hf) hS (fun q _ h => hFc q h) hFc (fun r u t H1 locs1 ht hvm hw9 hB hz1 hk1 hS => ?_)
  obtain ⟨hP1, hK1, hD1⟩ := hB
  rw [ht] at hP1
  obtain ⟨hP', hD'⟩ := va_join hP hD isC isR hC hRr hnd hdis hk1 hFc hP1 hD1
  exact k r u hw9 H1 locs1 ls (hP'.sub perm (fm_of_map (hperm u))) (hD'.sub perm hpn (hperm u)) hS hl
theorem g_callVvs {S : Type} (C : gx_C X cc own Ts tys N Rm) {y : MethodName} {wsY wsY' : List Cond} {rm : Room} {As rest : List Value} {WC : va_W} {W1 : S → va_W} {XP : Nat → State → Prop} {post : S → Prop} {mc ms index maxL : Nat} {bytes : ByteArray} {b : Nat} {Cn : String} {Tn : u_T} {Nn ci q0 : Nat} {fs : List Value} {ret : Option FieldType}
    (hM : ∀ sz, Met (gx_l X) y wsY rm (va_Pc (.ref b :: As) (pW (gx_D X) tys WC (XP sz) sz)) (va_Qv post (qW (gx_D X) tys (va_A WC sz) W1) (va_A WC sz)) mc ms (va_A WC sz)) (hXP : gx_XPs X WC XP)
    (n : Nat) (hg : GoodIn Ts (wsV own index Cn y wsY)) (hw : wsY = Cond.code y bytes maxL ret :: wsY') (hrc : rm.cells = mc) (hrs : rm.slots = ms) (hd : y.cls = Cn ∧ y.cls ≠ "java/lang/invoke/MethodHandle" ∧ y.cls ≠ "java/lang/invoke/VarHandle" ∧ (parseMethodDescriptor y.desc).map (fun d => d.parameters.length) = some n) (hR : rm.frames + 1 ≤ Rm.frames ∧ 8 + (maxL + 11) + rm.locals ≤ Rm.locals)
    (hci : vwCl[ci]? = some (Cn, Tn, Nn)) (hq0 : WC[q0]? = some (b, .inr (ci, fs))) (isC isR perm : List Nat) {wr : va_W} {ws' : S → va_W} (hC : isC.map (fun i => ws[i]?) = WC.map some) (hcn : va_nd isC = true) (hRr : isR.map (fun i => ws[i]?) = wr.map some) (hnd : va_nd isR = true) (hdis : ∀ i ∈ isR, i ∉ isC) (hperm : ∀ u, perm.map (fun i => (wr ++ W1 u)[i]?) = (ws' u).map some) (hpn : va_nd perm = true)
    (hn : As.length = n) (hst : st = As.reverse ++ .ref b :: rest) (hW : (rest.map fun v => v.category).sum ≤ 8) (hdg : decode cc pc = .ok (.invokevirtual index, 3)) (hf : cells + mc ≤ Rm.cells ∧ slots + ms ≤ Rm.slots) (pc' : Nat) (hp : pc + 3 = pc')
    (k : ∀ u, post u → gx X (cells + mc) (slots + ms) (ws' u) pc' lv (rest)) : gx X cells slots ws pc lv st := by
  obtain ⟨p, l, e, R, s, m, args, below, meth, c, A, D, nL, Q⟩ := X
  subst hp
  subst hst
  have hRm : R = Rm := C.2.2.2.2.2.2.2.2
  subst hRm
  intro H locs ls hP hD hS hl
  have hPc := hP.sub (ws' := WC) isC (fm_of_map hC)
  have hDc := hD.sub (ws' := WC) isC hcn hC
  have hFc := va_free (wc := WC) hD hS C.2.2.2.2.2.2.1 isC hC
  refine va_callv (va_runV (As := As) (rest := rest) ⟨C.1, C.2.1, C.2.2.1, C.2.2.2.1, C.2.2.2.2.1⟩ (hM H.size) (cwV n C.2.2.2.2.1 hg hw hrc hrs hd hR) ⟨fun a U g mk q => by obtain ⟨e0, q0, qP, qK, qD, qX⟩ := q; exact ⟨e0, q0, qP, va_K.moved (u := U) (U := U.calling g mk a) (Vm.Alike.refl U.vm) qK, qD, hXP.1 H.size a U g mk qX⟩, va_recv C.2.2.2.2.2.1 hPc hci hq0, fun U hU hW => ⟨rfl, by rw [hU], by rw [hU]; exact hPc, va_K.moved hW.alike C.2.2.2.2.2.1, hDc.weaken (fun _ _ _ _ => trivial), hXP.2 H locs U hS hFc hU hW⟩⟩ rfl hn hl.1 rfl (lv_room hW) hdg hf) hS (fun q _ h => hFc q h) hFc (fun u t H1 locs1 ht hvm hw9 hB hz1 hk1 hS => ?_)
  obtain ⟨hP1, hK1, hD1⟩ := hB
  rw [ht] at hP1
  obtain ⟨hP', hD'⟩ := va_join hP hD isC isR hC hRr hnd hdis hk1 hFc hP1 hD1
  exact k u hw9 H1 locs1 ls (hP'.sub perm (fm_of_map (hperm u))) (hD'.sub perm hpn (hperm u)) hS hl
theorem g_callVas {S : Type} (C : gx_C X cc own Ts tys N Rm) {y : MethodName} {wsY wsY' : List Cond} {rm : Room} {As rest : List Value} {WC : va_W} {W1 : S → va_W} {XP : Nat → State → Prop} {post : S → Prop} {mc ms index maxL : Nat} {bytes : ByteArray} {b : Nat} {Cn : String} {Tn : u_T} {Nn ci q0 : Nat} {fs : List Value} {ret : Option FieldType} {ad : Nat}
    (hM : ∀ sz, Met (gx_l X) y wsY rm (va_Pc (.ref b :: As) (pW (gx_D X) tys WC (XP sz) sz)) (va_Qr post (qR (gx_D X) tys (va_A WC sz) W1 ad) (va_A WC sz)) mc ms (va_A WC sz)) (hXP : gx_XPs X WC XP)
    (n : Nat) (hg : GoodIn Ts (wsV own index Cn y wsY)) (hw : wsY = Cond.code y bytes maxL ret :: wsY') (hrc : rm.cells = mc) (hrs : rm.slots = ms) (hd : y.cls = Cn ∧ y.cls ≠ "java/lang/invoke/MethodHandle" ∧ y.cls ≠ "java/lang/invoke/VarHandle" ∧ (parseMethodDescriptor y.desc).map (fun d => d.parameters.length) = some n) (hR : rm.frames + 1 ≤ Rm.frames ∧ 8 + (maxL + 11) + rm.locals ≤ Rm.locals)
    (hci : vwCl[ci]? = some (Cn, Tn, Nn)) (hq0 : WC[q0]? = some (b, .inr (ci, fs))) (isC isR perm : List Nat) {wr : va_W} {ws' : S → va_W} (hC : isC.map (fun i => ws[i]?) = WC.map some) (hcn : va_nd isC = true) (hRr : isR.map (fun i => ws[i]?) = wr.map some) (hnd : va_nd isR = true) (hdis : ∀ i ∈ isR, i ∉ isC) (hperm : ∀ u, perm.map (fun i => (wr ++ W1 u)[i]?) = (ws' u).map some) (hpn : va_nd perm = true)
    (hn : As.length = n) (hst : st = As.reverse ++ .ref b :: rest) (hW : (rest.map fun v => v.category).sum ≤ 8) (hdg : decode cc pc = .ok (.invokevirtual index, 3)) (hf : cells + mc ≤ Rm.cells ∧ slots + ms ≤ Rm.slots) (pc' : Nat) (hp : pc + 3 = pc')
    (k : ∀ u, post u → gx X (cells + mc) (slots + ms) (ws' u) pc' lv (.ref ad :: rest)) : gx X cells slots ws pc lv st := by
  obtain ⟨p, l, e, R, s, m, args, below, meth, c, A, D, nL, Q⟩ := X
  subst hp
  subst hst
  have hRm : R = Rm := C.2.2.2.2.2.2.2.2
  subst hRm
  intro H locs ls hP hD hS hl
  have hPc := hP.sub (ws' := WC) isC (fm_of_map hC)
  have hDc := hD.sub (ws' := WC) isC hcn hC
  have hFc := va_free (wc := WC) hD hS C.2.2.2.2.2.2.1 isC hC
  refine va_callr (va_runV (As := As) (rest := rest) ⟨C.1, C.2.1, C.2.2.1, C.2.2.2.1, C.2.2.2.2.1⟩ (hM H.size) (cwV n C.2.2.2.2.1 hg hw hrc hrs hd hR) ⟨fun a U g mk q => by obtain ⟨e0, q0, qP, qK, qD, qX⟩ := q; exact ⟨e0, q0, qP, va_K.moved (u := U) (U := U.calling g mk a) (Vm.Alike.refl U.vm) qK, qD, hXP.1 H.size a U g mk qX⟩, va_recv C.2.2.2.2.2.1 hPc hci hq0, fun U hU hW => ⟨rfl, by rw [hU], by rw [hU]; exact hPc, va_K.moved hW.alike C.2.2.2.2.2.1, hDc.weaken (fun _ _ _ _ => trivial), hXP.2 H locs U hS hFc hU hW⟩⟩ rfl hn hl.1 rfl (lv_room hW) hdg hf) hS (fun q _ h => hFc q h) hFc (fun u ra t H1 locs1 ht hvm hw9 hB hz1 hk1 hS => ?_)
  obtain ⟨rfl, hB⟩ := hB
  obtain ⟨hP1, hK1, hD1⟩ := hB
  rw [ht] at hP1
  obtain ⟨hP', hD'⟩ := va_join hP hD isC isR hC hRr hnd hdis hk1 hFc hP1 hD1
  exact k u hw9 H1 locs1 ls (hP'.sub perm (fm_of_map (hperm u))) (hD'.sub perm hpn (hperm u)) hS hl
theorem g_callSis {S : Type} (C : gx_C X cc own Ts tys N Rm) {y : MethodName} {wsY wsY' : List Cond} {rm : Room} {As rest : List Value} {WC : va_W} {W1 : S → va_W} {XP : Nat → State → Prop} {post : Int32 → S → Prop} {mc ms index maxL : Nat} {bytes : ByteArray} {ret : Option FieldType}
    (hM : ∀ sz, Met (gx_l X) y wsY rm (va_Pc As (pW (gx_D X) tys WC (XP sz) sz)) (va_Qi post (qW (gx_D X) tys (va_A WC sz) W1) (va_A WC sz)) mc ms (va_A WC sz)) (hXP : gx_XPs X WC XP)
    (n : Nat) (hg : GoodIn Ts (va_wsS own index y wsY)) (hw : wsY = Cond.code y bytes maxL ret :: wsY') (hrc : rm.cells = mc) (hrs : rm.slots = ms) (hd : y.cls ≠ "java/lang/invoke/MethodHandle" ∧ y.cls ≠ "java/lang/invoke/VarHandle" ∧ (parseMethodDescriptor y.desc).map (fun d => d.parameters.length) = some n) (hR : rm.frames + 1 ≤ Rm.frames ∧ 8 + (maxL + 11) + rm.locals ≤ Rm.locals)
    (isC isR perm : List Nat) {wr : va_W} {ws' : S → va_W} (hC : isC.map (fun i => ws[i]?) = WC.map some) (hcn : va_nd isC = true) (hRr : isR.map (fun i => ws[i]?) = wr.map some) (hnd : va_nd isR = true) (hdis : ∀ i ∈ isR, i ∉ isC) (hperm : ∀ u, perm.map (fun i => (wr ++ W1 u)[i]?) = (ws' u).map some) (hpn : va_nd perm = true)
    (hn : As.length = n) (hst : st = As.reverse ++ rest) (hW : (rest.map fun v => v.category).sum ≤ 8) (hdg : decode cc pc = .ok (.invokestatic index, 3)) (hf : cells + mc ≤ Rm.cells ∧ slots + ms ≤ Rm.slots) (pc' : Nat) (hp : pc + 3 = pc')
    (k : ∀ r u, post r u → gx X (cells + mc) (slots + ms) (ws' u) pc' lv (.int r :: rest)) : gx X cells slots ws pc lv st := by
  obtain ⟨p, l, e, R, s, m, args, below, meth, c, A, D, nL, Q⟩ := X
  subst hp
  subst hst
  have hRm : R = Rm := C.2.2.2.2.2.2.2.2
  subst hRm
  intro H locs ls hP hD hS hl
  have hPc := hP.sub (ws' := WC) isC (fm_of_map hC)
  have hDc := hD.sub (ws' := WC) isC hcn hC
  have hFc := va_free (wc := WC) hD hS C.2.2.2.2.2.2.1 isC hC
  refine va_calli (va_runS (As := As) (rest := rest) ⟨C.1, C.2.1, C.2.2.1, C.2.2.2.1, C.2.2.2.2.1⟩ (hM H.size) (va_cwS n C.2.2.2.2.1 hg hw hrc hrs hd hR) ⟨fun a U g mk q => by obtain ⟨e0, q0, qP, qK, qD, qX⟩ := q; exact ⟨e0, q0, qP, va_K.moved (u := U) (U := U.calling g mk a) (Vm.Alike.refl U.vm) qK, qD, hXP.1 H.size a U g mk qX⟩, fun U hU hW => ⟨rfl, by rw [hU], by rw [hU]; exact hPc, va_K.moved hW.alike C.2.2.2.2.2.1, hDc.weaken (fun _ _ _ _ => trivial), hXP.2 H locs U hS hFc hU hW⟩⟩ rfl hn hl.1 rfl (lv_room hW) hdg hf) hS (fun q _ h => hFc q h) hFc (fun r u t H1 locs1 ht hvm hw9 hB hz1 hk1 hS => ?_)
  obtain ⟨hP1, hK1, hD1⟩ := hB
  rw [ht] at hP1
  obtain ⟨hP', hD'⟩ := va_join hP hD isC isR hC hRr hnd hdis hk1 hFc hP1 hD1
  exact k r u hw9 H1 locs1 ls (hP'.sub perm (fm_of_map (hperm u))) (hD'.sub perm hpn (hperm u)) hS hl
theorem g_callSvs {S : Type} (C : gx_C X cc own Ts tys N Rm) {y : MethodName} {wsY wsY' : List Cond} {rm : Room} {As rest : List Value} {WC : va_W} {W1 : S → va_W} {XP : Nat → State → Prop} {post : S → Prop} {mc ms index maxL : Nat} {bytes : ByteArray} {ret : Option FieldType}
    (hM : ∀ sz, Met (gx_l X) y wsY rm (va_Pc As (pW (gx_D X) tys WC (XP sz) sz)) (va_Qv post (qW (gx_D X) tys (va_A WC sz) W1) (va_A WC sz)) mc ms (va_A WC sz)) (hXP : gx_XPs X WC XP)
    (n : Nat) (hg : GoodIn Ts (va_wsS own index y wsY)) (hw : wsY = Cond.code y bytes maxL ret :: wsY') (hrc : rm.cells = mc) (hrs : rm.slots = ms) (hd : y.cls ≠ "java/lang/invoke/MethodHandle" ∧ y.cls ≠ "java/lang/invoke/VarHandle" ∧ (parseMethodDescriptor y.desc).map (fun d => d.parameters.length) = some n) (hR : rm.frames + 1 ≤ Rm.frames ∧ 8 + (maxL + 11) + rm.locals ≤ Rm.locals)
    (isC isR perm : List Nat) {wr : va_W} {ws' : S → va_W} (hC : isC.map (fun i => ws[i]?) = WC.map some) (hcn : va_nd isC = true) (hRr : isR.map (fun i => ws[i]?) = wr.map some) (hnd : va_nd isR = true) (hdis : ∀ i ∈ isR, i ∉ isC) (hperm : ∀ u, perm.map (fun i => (wr ++ W1 u)[i]?) = (ws' u).map some) (hpn : va_nd perm = true)
    (hn : As.length = n) (hst : st = As.reverse ++ rest) (hW : (rest.map fun v => v.category).sum ≤ 8) (hdg : decode cc pc = .ok (.invokestatic index, 3)) (hf : cells + mc ≤ Rm.cells ∧ slots + ms ≤ Rm.slots) (pc' : Nat) (hp : pc + 3 = pc')
    (k : ∀ u, post u → gx X (cells + mc) (slots + ms) (ws' u) pc' lv (rest)) : gx X cells slots ws pc lv st := by
  obtain ⟨p, l, e, R, s, m, args, below, meth, c, A, D, nL, Q⟩ := X
  subst hp
  subst hst
  have hRm : R = Rm := C.2.2.2.2.2.2.2.2
  subst hRm
  intro H locs ls hP hD hS hl
  have hPc := hP.sub (ws' := WC) isC (fm_of_map hC)
  have hDc := hD.sub (ws' := WC) isC hcn hC
  have hFc := va_free (wc := WC) hD hS C.2.2.2.2.2.2.1 isC hC
  refine va_callv (va_runS (As := As) (rest := rest) ⟨C.1, C.2.1, C.2.2.1, C.2.2.2.1, C.2.2.2.2.1⟩ (hM H.size) (va_cwS n C.2.2.2.2.1 hg hw hrc hrs hd hR) ⟨fun a U g mk q => by obtain ⟨e0, q0, qP, qK, qD, qX⟩ := q; exact ⟨e0, q0, qP, va_K.moved (u := U) (U := U.calling g mk a) (Vm.Alike.refl U.vm) qK, qD, hXP.1 H.size a U g mk qX⟩, fun U hU hW => ⟨rfl, by rw [hU], by rw [hU]; exact hPc, va_K.moved hW.alike C.2.2.2.2.2.1, hDc.weaken (fun _ _ _ _ => trivial), hXP.2 H locs U hS hFc hU hW⟩⟩ rfl hn hl.1 rfl (lv_room hW) hdg hf) hS (fun q _ h => hFc q h) hFc (fun u t H1 locs1 ht hvm hw9 hB hz1 hk1 hS => ?_)
  obtain ⟨hP1, hK1, hD1⟩ := hB
  rw [ht] at hP1
  obtain ⟨hP', hD'⟩ := va_join hP hD isC isR hC hRr hnd hdis hk1 hFc hP1 hD1
  exact k u hw9 H1 locs1 ls (hP'.sub perm (fm_of_map (hperm u))) (hD'.sub perm hpn (hperm u)) hS hl
theorem g_callSas {S : Type} (C : gx_C X cc own Ts tys N Rm) {y : MethodName} {wsY wsY' : List Cond} {rm : Room} {As rest : List Value} {WC : va_W} {W1 : S → va_W} {XP : Nat → State → Prop} {post : S → Prop} {mc ms index maxL : Nat} {bytes : ByteArray} {ret : Option FieldType} {ad : Nat}
    (hM : ∀ sz, Met (gx_l X) y wsY rm (va_Pc As (pW (gx_D X) tys WC (XP sz) sz)) (va_Qr post (qR (gx_D X) tys (va_A WC sz) W1 ad) (va_A WC sz)) mc ms (va_A WC sz)) (hXP : gx_XPs X WC XP)
    (n : Nat) (hg : GoodIn Ts (va_wsS own index y wsY)) (hw : wsY = Cond.code y bytes maxL ret :: wsY') (hrc : rm.cells = mc) (hrs : rm.slots = ms) (hd : y.cls ≠ "java/lang/invoke/MethodHandle" ∧ y.cls ≠ "java/lang/invoke/VarHandle" ∧ (parseMethodDescriptor y.desc).map (fun d => d.parameters.length) = some n) (hR : rm.frames + 1 ≤ Rm.frames ∧ 8 + (maxL + 11) + rm.locals ≤ Rm.locals)
    (isC isR perm : List Nat) {wr : va_W} {ws' : S → va_W} (hC : isC.map (fun i => ws[i]?) = WC.map some) (hcn : va_nd isC = true) (hRr : isR.map (fun i => ws[i]?) = wr.map some) (hnd : va_nd isR = true) (hdis : ∀ i ∈ isR, i ∉ isC) (hperm : ∀ u, perm.map (fun i => (wr ++ W1 u)[i]?) = (ws' u).map some) (hpn : va_nd perm = true)
    (hn : As.length = n) (hst : st = As.reverse ++ rest) (hW : (rest.map fun v => v.category).sum ≤ 8) (hdg : decode cc pc = .ok (.invokestatic index, 3)) (hf : cells + mc ≤ Rm.cells ∧ slots + ms ≤ Rm.slots) (pc' : Nat) (hp : pc + 3 = pc')
    (k : ∀ u, post u → gx X (cells + mc) (slots + ms) (ws' u) pc' lv (.ref ad :: rest)) : gx X cells slots ws pc lv st := by
  obtain ⟨p, l, e, R, s, m, args, below, meth, c, A, D, nL, Q⟩ := X
  subst hp
  subst hst
  have hRm : R = Rm := C.2.2.2.2.2.2.2.2
  subst hRm
  intro H locs ls hP hD hS hl
  have hPc := hP.sub (ws' := WC) isC (fm_of_map hC)
  have hDc := hD.sub (ws' := WC) isC hcn hC
  have hFc := va_free (wc := WC) hD hS C.2.2.2.2.2.2.1 isC hC
  refine va_callr (va_runS (As := As) (rest := rest) ⟨C.1, C.2.1, C.2.2.1, C.2.2.2.1, C.2.2.2.2.1⟩ (hM H.size) (va_cwS n C.2.2.2.2.1 hg hw hrc hrs hd hR) ⟨fun a U g mk q => by obtain ⟨e0, q0, qP, qK, qD, qX⟩ := q; exact ⟨e0, q0, qP, va_K.moved (u := U) (U := U.calling g mk a) (Vm.Alike.refl U.vm) qK, qD, hXP.1 H.size a U g mk qX⟩, fun U hU hW => ⟨rfl, by rw [hU], by rw [hU]; exact hPc, va_K.moved hW.alike C.2.2.2.2.2.1, hDc.weaken (fun _ _ _ _ => trivial), hXP.2 H locs U hS hFc hU hW⟩⟩ rfl hn hl.1 rfl (lv_room hW) hdg hf) hS (fun q _ h => hFc q h) hFc (fun u ra t H1 locs1 ht hvm hw9 hB hz1 hk1 hS => ?_)
  obtain ⟨rfl, hB⟩ := hB
  obtain ⟨hP1, hK1, hD1⟩ := hB
  rw [ht] at hP1
  obtain ⟨hP', hD'⟩ := va_join hP hD isC isR hC hRr hnd hdis hk1 hFc hP1 hD1
  exact k u hw9 H1 locs1 ls (hP'.sub perm (fm_of_map (hperm u))) (hD'.sub perm hpn (hperm u)) hS hl
theorem g_callIvs {S : Type} (C : gx_C X cc own Ts tys N Rm) {y : MethodName} {wsY wsY' : List Cond} {rm : Room} {As rest : List Value} {WC : va_W} {W1 : S → va_W} {XP : Nat → State → Prop} {post : S → Prop} {mc ms index maxL : Nat} {bytes : ByteArray} {b : Nat}
    (hM : ∀ sz, Met (gx_l X) y wsY rm (va_Pc (.ref b :: As) (pW (gx_D X) tys WC (XP sz) sz)) (va_Qv post (qW (gx_D X) tys (va_A WC sz) W1) (va_A WC sz)) mc ms (va_A WC sz)) (hXP : gx_XPs X WC XP)
    (n : Nat) (hg : GoodIn Ts wsY) (hini : Cond.initialized y.cls ∈ Ts) (hlk : Cond.methodLink own index y ∈ Ts) (hinm : Cond.instanceMethod y ∈ Ts) (hy1 : y.name = "<init>") (hw : wsY = Cond.code y bytes maxL none :: wsY') (hrc : rm.cells = mc) (hrs : rm.slots = ms) (hd : y.cls ≠ "java/lang/invoke/MethodHandle" ∧ y.cls ≠ "java/lang/invoke/VarHandle" ∧ (parseMethodDescriptor y.desc).map (fun d => d.parameters.length) = some n) (hR : rm.frames + 1 ≤ Rm.frames ∧ 8 + (maxL + 11) + rm.locals ≤ Rm.locals)
    (isC isR perm : List Nat) {wr : va_W} {ws' : S → va_W} (hC : isC.map (fun i => ws[i]?) = WC.map some) (hcn : va_nd isC = true) (hRr : isR.map (fun i => ws[i]?) = wr.map some) (hnd : va_nd isR = true) (hdis : ∀ i ∈ isR, i ∉ isC) (hperm : ∀ u, perm.map (fun i => (wr ++ W1 u)[i]?) = (ws' u).map some) (hpn : va_nd perm = true)
    (hn : As.length = n) (hst : st = As.reverse ++ .ref b :: rest) (hW : (rest.map fun v => v.category).sum ≤ 8) (hdg : decode cc pc = .ok (.invokespecial index, 3)) (hf : cells + mc ≤ Rm.cells ∧ slots + ms ≤ Rm.slots) (pc' : Nat) (hp : pc + 3 = pc')
    (k : ∀ u, post u → gx X (cells + mc) (slots + ms) (ws' u) pc' lv (rest)) : gx X cells slots ws pc lv st := by
  obtain ⟨p, l, e, R, s, m, args, below, meth, c, A, D, nL, Q⟩ := X
  subst hp
  subst hst
  have hRm : R = Rm := C.2.2.2.2.2.2.2.2
  subst hRm
  intro H locs ls hP hD hS hl
  have hPc := hP.sub (ws' := WC) isC (fm_of_map hC)
  have hDc := hD.sub (ws' := WC) isC hcn hC
  have hFc := va_free (wc := WC) hD hS C.2.2.2.2.2.2.1 isC hC
  refine va_callv (va_runI (As := As) (rest := rest) ⟨C.1, C.2.1, C.2.2.1, C.2.2.2.1, C.2.2.2.2.1⟩ (hM H.size) (cwI n C.2.2.2.2.1 hg hw hrc hrs (C.2.2.2.2.1 _ hini) (C.2.2.2.2.1 _ hlk) (C.2.2.2.2.1 _ hinm) hy1 hd hR) ⟨fun a U g mk q => by obtain ⟨e0, q0, qP, qK, qD, qX⟩ := q; exact ⟨e0, q0, qP, va_K.moved (u := U) (U := U.calling g mk a) (Vm.Alike.refl U.vm) qK, qD, hXP.1 H.size a U g mk qX⟩, fun U hU hW => ⟨rfl, by rw [hU], by rw [hU]; exact hPc, va_K.moved hW.alike C.2.2.2.2.2.1, hDc.weaken (fun _ _ _ _ => trivial), hXP.2 H locs U hS hFc hU hW⟩⟩ rfl hn hl.1 rfl (lv_room hW) hdg hf) hS (fun q _ h => hFc q h) hFc (fun u t H1 locs1 ht hvm hw9 hB hz1 hk1 hS => ?_)
  obtain ⟨hP1, hK1, hD1⟩ := hB
  rw [ht] at hP1
  obtain ⟨hP', hD'⟩ := va_join hP hD isC isR hC hRr hnd hdis hk1 hFc hP1 hD1
  exact k u hw9 H1 locs1 ls (hP'.sub perm (fm_of_map (hperm u))) (hD'.sub perm hpn (hperm u)) hS hl
theorem g_callUis {S : Type} (C : gx_C X cc own Ts tys N Rm) {y : MethodName} {wsY wsY' : List Cond} {rm : Room} {As rest : List Value} {WC : va_W} {W1 : S → va_W} {XP : Nat → State → Prop} {post : Int32 → S → Prop} {mc ms index maxL : Nat} {bytes : ByteArray} {b : Nat} {Cn owner : String} {x : MethodName} {Tn : u_T} {Nn ci q0 : Nat} {fs : List Value} {ret : Option FieldType}
    (hM : ∀ sz, Met (gx_l X) y wsY rm (va_Pc (.ref b :: As) (pW (gx_D X) tys WC (XP sz) sz)) (va_Qi post (qW (gx_D X) tys (va_A WC sz) W1) (va_A WC sz)) mc ms (va_A WC sz)) (hXP : gx_XPs X WC XP)
    (n : Nat) (hg : GoodIn Ts (va_wsU own index Cn owner x y wsY)) (hyx : y = ⟨owner, x.name, x.desc⟩) (hw : wsY = Cond.code y bytes maxL ret :: wsY') (hrc : rm.cells = mc) (hrs : rm.slots = ms) (hd : owner ≠ "java/lang/invoke/MethodHandle" ∧ owner ≠ "java/lang/invoke/VarHandle" ∧ (parseMethodDescriptor x.desc).map (fun d => d.parameters.length) = some n) (hR : rm.frames + 1 ≤ Rm.frames ∧ 8 + (maxL + 11) + rm.locals ≤ Rm.locals)
    (hci : vwCl[ci]? = some (Cn, Tn, Nn)) (hq0 : WC[q0]? = some (b, .inr (ci, fs))) (isC isR perm : List Nat) {wr : va_W} {ws' : S → va_W} (hC : isC.map (fun i => ws[i]?) = WC.map some) (hcn : va_nd isC = true) (hRr : isR.map (fun i => ws[i]?) = wr.map some) (hnd : va_nd isR = true) (hdis : ∀ i ∈ isR, i ∉ isC) (hperm : ∀ u, perm.map (fun i => (wr ++ W1 u)[i]?) = (ws' u).map some) (hpn : va_nd perm = true)
    (hn : As.length = n) (hst : st = As.reverse ++ .ref b :: rest) (hW : (rest.map fun v => v.category).sum ≤ 8) (hdg : decode cc pc = .ok (.invokevirtual index, 3)) (hf : cells + mc ≤ Rm.cells ∧ slots + ms ≤ Rm.slots) (pc' : Nat) (hp : pc + 3 = pc')
    (k : ∀ r u, post r u → gx X (cells + mc) (slots + ms) (ws' u) pc' lv (.int r :: rest)) : gx X cells slots ws pc lv st := by
  obtain ⟨p, l, e, R, s, m, args, below, meth, c, A, D, nL, Q⟩ := X
  subst hp
  subst hst
  have hRm : R = Rm := C.2.2.2.2.2.2.2.2
  subst hRm
  intro H locs ls hP hD hS hl
  have hPc := hP.sub (ws' := WC) isC (fm_of_map hC)
  have hDc := hD.sub (ws' := WC) isC hcn hC
  have hFc := va_free (wc := WC) hD hS C.2.2.2.2.2.2.1 isC hC
  refine va_calli (va_runU (As := As) (rest := rest) ⟨C.1, C.2.1, C.2.2.1, C.2.2.2.1, C.2.2.2.2.1⟩ (hM H.size) (va_cwU n C.2.2.2.2.1 hg hw hrc hrs hyx hd hR) ⟨fun a U g mk q => by obtain ⟨e0, q0, qP, qK, qD, qX⟩ := q; exact ⟨e0, q0, qP, va_K.moved (u := U) (U := U.calling g mk a) (Vm.Alike.refl U.vm) qK, qD, hXP.1 H.size a U g mk qX⟩, va_recv C.2.2.2.2.2.1 hPc hci hq0, fun U hU hW => ⟨rfl, by rw [hU], by rw [hU]; exact hPc, va_K.moved hW.alike C.2.2.2.2.2.1, hDc.weaken (fun _ _ _ _ => trivial), hXP.2 H locs U hS hFc hU hW⟩⟩ rfl hn hl.1 rfl (lv_room hW) hdg hf) hS (fun q _ h => hFc q h) hFc (fun r u t H1 locs1 ht hvm hw9 hB hz1 hk1 hS => ?_)
  obtain ⟨hP1, hK1, hD1⟩ := hB
  rw [ht] at hP1
  obtain ⟨hP', hD'⟩ := va_join hP hD isC isR hC hRr hnd hdis hk1 hFc hP1 hD1
  exact k r u hw9 H1 locs1 ls (hP'.sub perm (fm_of_map (hperm u))) (hD'.sub perm hpn (hperm u)) hS hl
theorem g_callUvs {S : Type} (C : gx_C X cc own Ts tys N Rm) {y : MethodName} {wsY wsY' : List Cond} {rm : Room} {As rest : List Value} {WC : va_W} {W1 : S → va_W} {XP : Nat → State → Prop} {post : S → Prop} {mc ms index maxL : Nat} {bytes : ByteArray} {b : Nat} {Cn owner : String} {x : MethodName} {Tn : u_T} {Nn ci q0 : Nat} {fs : List Value} {ret : Option FieldType}
    (hM : ∀ sz, Met (gx_l X) y wsY rm (va_Pc (.ref b :: As) (pW (gx_D X) tys WC (XP sz) sz)) (va_Qv post (qW (gx_D X) tys (va_A WC sz) W1) (va_A WC sz)) mc ms (va_A WC sz)) (hXP : gx_XPs X WC XP)
    (n : Nat) (hg : GoodIn Ts (va_wsU own index Cn owner x y wsY)) (hyx : y = ⟨owner, x.name, x.desc⟩) (hw : wsY = Cond.code y bytes maxL ret :: wsY') (hrc : rm.cells = mc) (hrs : rm.slots = ms) (hd : owner ≠ "java/lang/invoke/MethodHandle" ∧ owner ≠ "java/lang/invoke/VarHandle" ∧ (parseMethodDescriptor x.desc).map (fun d => d.parameters.length) = some n) (hR : rm.frames + 1 ≤ Rm.frames ∧ 8 + (maxL + 11) + rm.locals ≤ Rm.locals)
    (hci : vwCl[ci]? = some (Cn, Tn, Nn)) (hq0 : WC[q0]? = some (b, .inr (ci, fs))) (isC isR perm : List Nat) {wr : va_W} {ws' : S → va_W} (hC : isC.map (fun i => ws[i]?) = WC.map some) (hcn : va_nd isC = true) (hRr : isR.map (fun i => ws[i]?) = wr.map some) (hnd : va_nd isR = true) (hdis : ∀ i ∈ isR, i ∉ isC) (hperm : ∀ u, perm.map (fun i => (wr ++ W1 u)[i]?) = (ws' u).map some) (hpn : va_nd perm = true)
    (hn : As.length = n) (hst : st = As.reverse ++ .ref b :: rest) (hW : (rest.map fun v => v.category).sum ≤ 8) (hdg : decode cc pc = .ok (.invokevirtual index, 3)) (hf : cells + mc ≤ Rm.cells ∧ slots + ms ≤ Rm.slots) (pc' : Nat) (hp : pc + 3 = pc')
    (k : ∀ u, post u → gx X (cells + mc) (slots + ms) (ws' u) pc' lv (rest)) : gx X cells slots ws pc lv st := by
  obtain ⟨p, l, e, R, s, m, args, below, meth, c, A, D, nL, Q⟩ := X
  subst hp
  subst hst
  have hRm : R = Rm := C.2.2.2.2.2.2.2.2
  subst hRm
  intro H locs ls hP hD hS hl
  have hPc := hP.sub (ws' := WC) isC (fm_of_map hC)
  have hDc := hD.sub (ws' := WC) isC hcn hC
  have hFc := va_free (wc := WC) hD hS C.2.2.2.2.2.2.1 isC hC
  refine va_callv (va_runU (As := As) (rest := rest) ⟨C.1, C.2.1, C.2.2.1, C.2.2.2.1, C.2.2.2.2.1⟩ (hM H.size) (va_cwU n C.2.2.2.2.1 hg hw hrc hrs hyx hd hR) ⟨fun a U g mk q => by obtain ⟨e0, q0, qP, qK, qD, qX⟩ := q; exact ⟨e0, q0, qP, va_K.moved (u := U) (U := U.calling g mk a) (Vm.Alike.refl U.vm) qK, qD, hXP.1 H.size a U g mk qX⟩, va_recv C.2.2.2.2.2.1 hPc hci hq0, fun U hU hW => ⟨rfl, by rw [hU], by rw [hU]; exact hPc, va_K.moved hW.alike C.2.2.2.2.2.1, hDc.weaken (fun _ _ _ _ => trivial), hXP.2 H locs U hS hFc hU hW⟩⟩ rfl hn hl.1 rfl (lv_room hW) hdg hf) hS (fun q _ h => hFc q h) hFc (fun u t H1 locs1 ht hvm hw9 hB hz1 hk1 hS => ?_)
  obtain ⟨hP1, hK1, hD1⟩ := hB
  rw [ht] at hP1
  obtain ⟨hP', hD'⟩ := va_join hP hD isC isR hC hRr hnd hdis hk1 hFc hP1 hD1
  exact k u hw9 H1 locs1 ls (hP'.sub perm (fm_of_map (hperm u))) (hD'.sub perm hpn (hperm u)) hS hl
theorem g_callUas {S : Type} (C : gx_C X cc own Ts tys N Rm) {y : MethodName} {wsY wsY' : List Cond} {rm : Room} {As rest : List Value} {WC : va_W} {W1 : S → va_W} {XP : Nat → State → Prop} {post : S → Prop} {mc ms index maxL : Nat} {bytes : ByteArray} {b : Nat} {Cn owner : String} {x : MethodName} {Tn : u_T} {Nn ci q0 : Nat} {fs : List Value} {ret : Option FieldType} {ad : Nat}
    (hM : ∀ sz, Met (gx_l X) y wsY rm (va_Pc (.ref b :: As) (pW (gx_D X) tys WC (XP sz) sz)) (va_Qr post (qR (gx_D X) tys (va_A WC sz) W1 ad) (va_A WC sz)) mc ms (va_A WC sz)) (hXP : gx_XPs X WC XP)
    (n : Nat) (hg : GoodIn Ts (va_wsU own index Cn owner x y wsY)) (hyx : y = ⟨owner, x.name, x.desc⟩) (hw : wsY = Cond.code y bytes maxL ret :: wsY') (hrc : rm.cells = mc) (hrs : rm.slots = ms) (hd : owner ≠ "java/lang/invoke/MethodHandle" ∧ owner ≠ "java/lang/invoke/VarHandle" ∧ (parseMethodDescriptor x.desc).map (fun d => d.parameters.length) = some n) (hR : rm.frames + 1 ≤ Rm.frames ∧ 8 + (maxL + 11) + rm.locals ≤ Rm.locals)
    (hci : vwCl[ci]? = some (Cn, Tn, Nn)) (hq0 : WC[q0]? = some (b, .inr (ci, fs))) (isC isR perm : List Nat) {wr : va_W} {ws' : S → va_W} (hC : isC.map (fun i => ws[i]?) = WC.map some) (hcn : va_nd isC = true) (hRr : isR.map (fun i => ws[i]?) = wr.map some) (hnd : va_nd isR = true) (hdis : ∀ i ∈ isR, i ∉ isC) (hperm : ∀ u, perm.map (fun i => (wr ++ W1 u)[i]?) = (ws' u).map some) (hpn : va_nd perm = true)
    (hn : As.length = n) (hst : st = As.reverse ++ .ref b :: rest) (hW : (rest.map fun v => v.category).sum ≤ 8) (hdg : decode cc pc = .ok (.invokevirtual index, 3)) (hf : cells + mc ≤ Rm.cells ∧ slots + ms ≤ Rm.slots) (pc' : Nat) (hp : pc + 3 = pc')
    (k : ∀ u, post u → gx X (cells + mc) (slots + ms) (ws' u) pc' lv (.ref ad :: rest)) : gx X cells slots ws pc lv st := by
  obtain ⟨p, l, e, R, s, m, args, below, meth, c, A, D, nL, Q⟩ := X
  subst hp
  subst hst
  have hRm : R = Rm := C.2.2.2.2.2.2.2.2
  subst hRm
  intro H locs ls hP hD hS hl
  have hPc := hP.sub (ws' := WC) isC (fm_of_map hC)
  have hDc := hD.sub (ws' := WC) isC hcn hC
  have hFc := va_free (wc := WC) hD hS C.2.2.2.2.2.2.1 isC hC
  refine va_callr (va_runU (As := As) (rest := rest) ⟨C.1, C.2.1, C.2.2.1, C.2.2.2.1, C.2.2.2.2.1⟩ (hM H.size) (va_cwU n C.2.2.2.2.1 hg hw hrc hrs hyx hd hR) ⟨fun a U g mk q => by obtain ⟨e0, q0, qP, qK, qD, qX⟩ := q; exact ⟨e0, q0, qP, va_K.moved (u := U) (U := U.calling g mk a) (Vm.Alike.refl U.vm) qK, qD, hXP.1 H.size a U g mk qX⟩, va_recv C.2.2.2.2.2.1 hPc hci hq0, fun U hU hW => ⟨rfl, by rw [hU], by rw [hU]; exact hPc, va_K.moved hW.alike C.2.2.2.2.2.1, hDc.weaken (fun _ _ _ _ => trivial), hXP.2 H locs U hS hFc hU hW⟩⟩ rfl hn hl.1 rfl (lv_room hW) hdg hf) hS (fun q _ h => hFc q h) hFc (fun u ra t H1 locs1 ht hvm hw9 hB hz1 hk1 hS => ?_)
  obtain ⟨rfl, hB⟩ := hB
  obtain ⟨hP1, hK1, hD1⟩ := hB
  rw [ht] at hP1
  obtain ⟨hP', hD'⟩ := va_join hP hD isC isR hC hRr hnd hdis hk1 hFc hP1 hD1
  exact k u hw9 H1 locs1 ls (hP'.sub perm (fm_of_map (hperm u))) (hD'.sub perm hpn (hperm u)) hS hl
theorem g_callSUis {S : Type} (C : gx_C X cc own Ts tys N Rm) {y : MethodName} {wsY wsY' : List Cond} {rm : Room} {As rest : List Value} {WC : va_W} {W1 : S → va_W} {XP : Nat → State → Prop} {post : Int32 → S → Prop} {mc ms index maxL : Nat} {bytes : ByteArray} {b : Nat} {Cn : String} {Tn : u_T} {Nn ci q0 : Nat} {fs : List Value} {ret : Option FieldType}
    (hM : ∀ sz, Met (gx_l X) y wsY rm (va_Pc (.ref b :: As) (pW (gx_D X) tys WC (XP sz) sz)) (va_Qi post (qW (gx_D X) tys (va_A WC sz) W1) (va_A WC sz)) mc ms (va_A WC sz)) (hXP : gx_XPs X WC XP)
    (n : Nat) (hg : GoodIn Ts (va_wsSU own index y wsY)) (hw : wsY = Cond.code y bytes maxL ret :: wsY') (hrc : rm.cells = mc) (hrs : rm.slots = ms) (hd : y.name ≠ "<init>" ∧ (parseMethodDescriptor y.desc).map (fun d => d.parameters.length) = some n) (hR : rm.frames + 1 ≤ Rm.frames ∧ 8 + (maxL + 11) + rm.locals ≤ Rm.locals)
    (hci : vwCl[ci]? = some (Cn, Tn, Nn)) (hq0 : WC[q0]? = some (b, .inr (ci, fs))) (isC isR perm : List Nat) {wr : va_W} {ws' : S → va_W} (hC : isC.map (fun i => ws[i]?) = WC.map some) (hcn : va_nd isC = true) (hRr : isR.map (fun i => ws[i]?) = wr.map some) (hnd : va_nd isR = true) (hdis : ∀ i ∈ isR, i ∉ isC) (hperm : ∀ u, perm.map (fun i => (wr ++ W1 u)[i]?) = (ws' u).map some) (hpn : va_nd perm = true)
    (hn : As.length = n) (hst : st = As.reverse ++ .ref b :: rest) (hW : (rest.map fun v => v.category).sum ≤ 8) (hdg : decode cc pc = .ok (.invokespecial index, 3)) (hf : cells + mc ≤ Rm.cells ∧ slots + ms ≤ Rm.slots) (pc' : Nat) (hp : pc + 3 = pc')
    (k : ∀ r u, post r u → gx X (cells + mc) (slots + ms) (ws' u) pc' lv (.int r :: rest)) : gx X cells slots ws pc lv st := by
  obtain ⟨p, l, e, R, s, m, args, below, meth, c, A, D, nL, Q⟩ := X
  subst hp
  subst hst
  have hRm : R = Rm := C.2.2.2.2.2.2.2.2
  subst hRm
  intro H locs ls hP hD hS hl
  have hPc := hP.sub (ws' := WC) isC (fm_of_map hC)
  have hDc := hD.sub (ws' := WC) isC hcn hC
  have hFc := va_free (wc := WC) hD hS C.2.2.2.2.2.2.1 isC hC
  refine va_calli (va_runSU (C.2.2.2.2.2.1.1 _ _ hci).2 (As := As) (rest := rest) ⟨C.1, C.2.1, C.2.2.1, C.2.2.2.1, C.2.2.2.2.1⟩ (hM H.size) (va_cwSU n C.2.2.2.2.1 hg hw hrc hrs hd hR) ⟨fun a U g mk q => by obtain ⟨e0, q0, qP, qK, qD, qX⟩ := q; exact ⟨e0, q0, qP, va_K.moved (u := U) (U := U.calling g mk a) (Vm.Alike.refl U.vm) qK, qD, hXP.1 H.size a U g mk qX⟩, va_recv C.2.2.2.2.2.1 hPc hci hq0, fun U hU hW => ⟨rfl, by rw [hU], by rw [hU]; exact hPc, va_K.moved hW.alike C.2.2.2.2.2.1, hDc.weaken (fun _ _ _ _ => trivial), hXP.2 H locs U hS hFc hU hW⟩⟩ rfl hn hl.1 rfl (lv_room hW) hdg hf) hS (fun q _ h => hFc q h) hFc (fun r u t H1 locs1 ht hvm hw9 hB hz1 hk1 hS => ?_)
  obtain ⟨hP1, hK1, hD1⟩ := hB
  rw [ht] at hP1
  obtain ⟨hP', hD'⟩ := va_join hP hD isC isR hC hRr hnd hdis hk1 hFc hP1 hD1
  exact k r u hw9 H1 locs1 ls (hP'.sub perm (fm_of_map (hperm u))) (hD'.sub perm hpn (hperm u)) hS hl
theorem g_callSUvs {S : Type} (C : gx_C X cc own Ts tys N Rm) {y : MethodName} {wsY wsY' : List Cond} {rm : Room} {As rest : List Value} {WC : va_W} {W1 : S → va_W} {XP : Nat → State → Prop} {post : S → Prop} {mc ms index maxL : Nat} {bytes : ByteArray} {b : Nat} {Cn : String} {Tn : u_T} {Nn ci q0 : Nat} {fs : List Value} {ret : Option FieldType}
    (hM : ∀ sz, Met (gx_l X) y wsY rm (va_Pc (.ref b :: As) (pW (gx_D X) tys WC (XP sz) sz)) (va_Qv post (qW (gx_D X) tys (va_A WC sz) W1) (va_A WC sz)) mc ms (va_A WC sz)) (hXP : gx_XPs X WC XP)
    (n : Nat) (hg : GoodIn Ts (va_wsSU own index y wsY)) (hw : wsY = Cond.code y bytes maxL ret :: wsY') (hrc : rm.cells = mc) (hrs : rm.slots = ms) (hd : y.name ≠ "<init>" ∧ (parseMethodDescriptor y.desc).map (fun d => d.parameters.length) = some n) (hR : rm.frames + 1 ≤ Rm.frames ∧ 8 + (maxL + 11) + rm.locals ≤ Rm.locals)
    (hci : vwCl[ci]? = some (Cn, Tn, Nn)) (hq0 : WC[q0]? = some (b, .inr (ci, fs))) (isC isR perm : List Nat) {wr : va_W} {ws' : S → va_W} (hC : isC.map (fun i => ws[i]?) = WC.map some) (hcn : va_nd isC = true) (hRr : isR.map (fun i => ws[i]?) = wr.map some) (hnd : va_nd isR = true) (hdis : ∀ i ∈ isR, i ∉ isC) (hperm : ∀ u, perm.map (fun i => (wr ++ W1 u)[i]?) = (ws' u).map some) (hpn : va_nd perm = true)
    (hn : As.length = n) (hst : st = As.reverse ++ .ref b :: rest) (hW : (rest.map fun v => v.category).sum ≤ 8) (hdg : decode cc pc = .ok (.invokespecial index, 3)) (hf : cells + mc ≤ Rm.cells ∧ slots + ms ≤ Rm.slots) (pc' : Nat) (hp : pc + 3 = pc')
    (k : ∀ u, post u → gx X (cells + mc) (slots + ms) (ws' u) pc' lv (rest)) : gx X cells slots ws pc lv st := by
  obtain ⟨p, l, e, R, s, m, args, below, meth, c, A, D, nL, Q⟩ := X
  subst hp
  subst hst
  have hRm : R = Rm := C.2.2.2.2.2.2.2.2
  subst hRm
  intro H locs ls hP hD hS hl
  have hPc := hP.sub (ws' := WC) isC (fm_of_map hC)
  have hDc := hD.sub (ws' := WC) isC hcn hC
  have hFc := va_free (wc := WC) hD hS C.2.2.2.2.2.2.1 isC hC
  refine va_callv (va_runSU (C.2.2.2.2.2.1.1 _ _ hci).2 (As := As) (rest := rest) ⟨C.1, C.2.1, C.2.2.1, C.2.2.2.1, C.2.2.2.2.1⟩ (hM H.size) (va_cwSU n C.2.2.2.2.1 hg hw hrc hrs hd hR) ⟨fun a U g mk q => by obtain ⟨e0, q0, qP, qK, qD, qX⟩ := q; exact ⟨e0, q0, qP, va_K.moved (u := U) (U := U.calling g mk a) (Vm.Alike.refl U.vm) qK, qD, hXP.1 H.size a U g mk qX⟩, va_recv C.2.2.2.2.2.1 hPc hci hq0, fun U hU hW => ⟨rfl, by rw [hU], by rw [hU]; exact hPc, va_K.moved hW.alike C.2.2.2.2.2.1, hDc.weaken (fun _ _ _ _ => trivial), hXP.2 H locs U hS hFc hU hW⟩⟩ rfl hn hl.1 rfl (lv_room hW) hdg hf) hS (fun q _ h => hFc q h) hFc (fun u t H1 locs1 ht hvm hw9 hB hz1 hk1 hS => ?_)
  obtain ⟨hP1, hK1, hD1⟩ := hB
  rw [ht] at hP1
  obtain ⟨hP', hD'⟩ := va_join hP hD isC isR hC hRr hnd hdis hk1 hFc hP1 hD1
  exact k u hw9 H1 locs1 ls (hP'.sub perm (fm_of_map (hperm u))) (hD'.sub perm hpn (hperm u)) hS hl
theorem g_callSUas {S : Type} (C : gx_C X cc own Ts tys N Rm) {y : MethodName} {wsY wsY' : List Cond} {rm : Room} {As rest : List Value} {WC : va_W} {W1 : S → va_W} {XP : Nat → State → Prop} {post : S → Prop} {mc ms index maxL : Nat} {bytes : ByteArray} {b : Nat} {Cn : String} {Tn : u_T} {Nn ci q0 : Nat} {fs : List Value} {ret : Option FieldType} {ad : Nat}
    (hM : ∀ sz, Met (gx_l X) y wsY rm (va_Pc (.ref b :: As) (pW (gx_D X) tys WC (XP sz) sz)) (va_Qr post (qR (gx_D X) tys (va_A WC sz) W1 ad) (va_A WC sz)) mc ms (va_A WC sz)) (hXP : gx_XPs X WC XP)
    (n : Nat) (hg : GoodIn Ts (va_wsSU own index y wsY)) (hw : wsY = Cond.code y bytes maxL ret :: wsY') (hrc : rm.cells = mc) (hrs : rm.slots = ms) (hd : y.name ≠ "<init>" ∧ (parseMethodDescriptor y.desc).map (fun d => d.parameters.length) = some n) (hR : rm.frames + 1 ≤ Rm.frames ∧ 8 + (maxL + 11) + rm.locals ≤ Rm.locals)
    (hci : vwCl[ci]? = some (Cn, Tn, Nn)) (hq0 : WC[q0]? = some (b, .inr (ci, fs))) (isC isR perm : List Nat) {wr : va_W} {ws' : S → va_W} (hC : isC.map (fun i => ws[i]?) = WC.map some) (hcn : va_nd isC = true) (hRr : isR.map (fun i => ws[i]?) = wr.map some) (hnd : va_nd isR = true) (hdis : ∀ i ∈ isR, i ∉ isC) (hperm : ∀ u, perm.map (fun i => (wr ++ W1 u)[i]?) = (ws' u).map some) (hpn : va_nd perm = true)
    (hn : As.length = n) (hst : st = As.reverse ++ .ref b :: rest) (hW : (rest.map fun v => v.category).sum ≤ 8) (hdg : decode cc pc = .ok (.invokespecial index, 3)) (hf : cells + mc ≤ Rm.cells ∧ slots + ms ≤ Rm.slots) (pc' : Nat) (hp : pc + 3 = pc')
    (k : ∀ u, post u → gx X (cells + mc) (slots + ms) (ws' u) pc' lv (.ref ad :: rest)) : gx X cells slots ws pc lv st := by
  obtain ⟨p, l, e, R, s, m, args, below, meth, c, A, D, nL, Q⟩ := X
  subst hp
  subst hst
  have hRm : R = Rm := C.2.2.2.2.2.2.2.2
  subst hRm
  intro H locs ls hP hD hS hl
  have hPc := hP.sub (ws' := WC) isC (fm_of_map hC)
  have hDc := hD.sub (ws' := WC) isC hcn hC
  have hFc := va_free (wc := WC) hD hS C.2.2.2.2.2.2.1 isC hC
  refine va_callr (va_runSU (C.2.2.2.2.2.1.1 _ _ hci).2 (As := As) (rest := rest) ⟨C.1, C.2.1, C.2.2.1, C.2.2.2.1, C.2.2.2.2.1⟩ (hM H.size) (va_cwSU n C.2.2.2.2.1 hg hw hrc hrs hd hR) ⟨fun a U g mk q => by obtain ⟨e0, q0, qP, qK, qD, qX⟩ := q; exact ⟨e0, q0, qP, va_K.moved (u := U) (U := U.calling g mk a) (Vm.Alike.refl U.vm) qK, qD, hXP.1 H.size a U g mk qX⟩, va_recv C.2.2.2.2.2.1 hPc hci hq0, fun U hU hW => ⟨rfl, by rw [hU], by rw [hU]; exact hPc, va_K.moved hW.alike C.2.2.2.2.2.1, hDc.weaken (fun _ _ _ _ => trivial), hXP.2 H locs U hS hFc hU hW⟩⟩ rfl hn hl.1 rfl (lv_room hW) hdg hf) hS (fun q _ h => hFc q h) hFc (fun u ra t H1 locs1 ht hvm hw9 hB hz1 hk1 hS => ?_)
  obtain ⟨rfl, hB⟩ := hB
  obtain ⟨hP1, hK1, hD1⟩ := hB
  rw [ht] at hP1
  obtain ⟨hP', hD'⟩ := va_join hP hD isC isR hC hRr hnd hdis hk1 hFc hP1 hD1
  exact k u hw9 H1 locs1 ls (hP'.sub perm (fm_of_map (hperm u))) (hD'.sub perm hpn (hperm u)) hS hl
end GXJ
