/-- what a wrapper's premise is: throws, statics, which of the two thrown classes is which -/
abbrev pK (l : Launch) (nw : List (String × Nat × MethodName × String)) (WS : va_W) (sz : Nat) : State → Prop := fun U => pTs l nw WS sz U ∧ va_Nc xIA xIO U
def gx_tab (X : gxT) (hh : List (Nat × Nat × Nat × Nat)) : Prop := X.2.2.2.2.2.2.2.2.2.1.exceptionTable.toList = tableOf hh
theorem gx_thrs {X : gxT} {nw nw' : List (String × Nat × MethodName × String)} {WC : va_W} (h : nst nw (gx_s X) ∧ thr (gx_l X) (gx_A X) (gx_s X) (gx_s X).heap) (h2 : stt (gx_A X) (gx_s X) (gx_s X).heap) (hs : ∀ q ∈ nw', q ∈ nw) : gx_XPs X WC (fun sz => pTs (gx_l X) nw' WC sz) :=
  ⟨fun sz a U g mk q => ⟨(gx_thr h hs).1 sz a U g mk q.1, q.2.blind a g mk⟩, fun H locs U hS hB hU hW => ⟨(gx_thr h hs).2 H locs U hS hB hU hW, h2.to hS hB hU hW⟩⟩
theorem gx_pK {X : gxT} {nw nw' : List (String × Nat × MethodName × String)} {WC : va_W} (h : nst nw (gx_s X) ∧ thr (gx_l X) (gx_A X) (gx_s X) (gx_s X).heap) (h2 : stt (gx_A X) (gx_s X) (gx_s X).heap) (h3 : va_Nc xIA xIO (gx_s X)) (hs : ∀ q ∈ nw', q ∈ nw) : gx_XPs X WC (fun sz => pK (gx_l X) nw' WC sz) :=
  ⟨fun sz a U g mk q => ⟨(gx_thrs h h2 hs).1 sz a U g mk q.1, va_Nc.moved (u := U) (U := U.calling g mk a) (Vm.Alike.refl U.vm) q.2⟩, fun H locs U hS hB hU hW => ⟨(gx_thrs h h2 hs).2 H locs U hS hB hU hW, va_Nc.moved hW.alike h3⟩⟩
theorem gx_pN {X : gxT} {nw nw' : List (String × Nat × MethodName × String)} {WC : va_W} (h : nst nw (gx_s X)) (h2 : stt (gx_A X) (gx_s X) (gx_s X).heap) (hs : ∀ q ∈ nw', q ∈ nw) : gx_XPs X WC (fun sz => pN nw' WC sz) :=
  ⟨fun sz a U g mk q => ⟨fun q9 h9 => q.1 q9 h9, q.2.blind a g mk⟩, fun H locs U hS hB hU hW => ⟨(gx_nst h hs).2 H locs U hS hU hW, h2.to hS hB hU hW⟩⟩
theorem gx_metW {l : Launch} {y : MethodName} {Ts ws' : List Cond} {rm : Room} {av : List Value} {D : va_G} {tys : List (ClassId × FieldType)} {WS : va_W} {XP : State → Prop} {sz : Nat} {Qc : Array Value → State → Outcome → State → Prop} {mc ms : Nat} {cc : ByteArray} {maxL : Nat} {ret : Option FieldType} {hh : List (Nat × Nat × Nat × Nat)} (own : String) (ho : y.cls = own) (hy : plainName y.cls = true) (hw : Ts = Cond.codeWith y cc maxL ret hh :: ws') (hlen : (lg_sl av).length ≤ maxL)
    (body : ∀ X : gxT, gx_l X = l → gx_D X = D → gx_A X = va_A WS sz → gx_C X cc own Ts tys maxL rm → gx_Q X ret Qc mc ms → gx_tab X hh → XP (gx_s X) → (gx_s X).heap.size = sz → gx X 0 0 WS 0 (lv_args 0 av) []) :
    Met l y Ts rm (va_Pc av (pW D tys WS XP sz)) Qc mc ms (va_A WS sz) := by
  refine va_MetW (cc := cc) (maxL := maxL) (ret := ret) (hh := hh) hy hw ?_
  intro p e s m args below meth c s₁ B hml hv
  obtain ⟨rfl, hsz, hP, hK, hD0, hX⟩ := hv
  subst hsz
  have hown : s.vm.findClass own = some m.cls := by rw [← ho]; exact findClass_of_methodNamed B.named
  have hl := lv_entry av (n := maxL) hlen
  have htb : c.exceptionTable.toList = tableOf hh := vx_table (x := y) B (atoms_spec (ws := Ts) B.pre _ (by rw [hw]; exact List.mem_cons_self))
  rw [lg_entry_eq]
  exact body (p, l, e, (headSpec Ts rm).room, s, m, av.toArray, below, meth, c, va_A WS s.heap.size, D, maxL, MQ below Qc av.toArray s mc ms (va_A WS s.heap.size)) rfl rfl rfl
    ⟨B.exec, B.bytes, hml, hown, atoms_spec (ws := Ts) B.pre, hK, fun q h => Or.inr h, rfl, rfl⟩ ⟨B.returns, B.notSynchronized, rfl⟩ htb hX rfl _ _ _ hP (hD0.self (sz := s.heap.size)) va_S.rf hl
section GXW
variable {X : gxT} {cells slots : Nat} {ws : va_W} {pc : Nat} {lv : List (Nat × Value)} {st : List Value} {cc : ByteArray} {own : String} {Ts : List Cond} {tys : List (ClassId × FieldType)} {N : Nat} {Rm : Room}
/-- a throw of E at pc is caught by a row of the table -/
def gxC (X : gxT) (own : String) (Ts : List Cond) (pc : Nat) (E : String) (cells slots : Nat) (WX : va_W) (lv : List (Nat × Value)) (q : Nat) : Prop := ∃ (pre : List ExceptionTableEntry) (x : ExceptionTableEntry) (suf : List ExceptionTableEntry), X.2.2.2.2.2.2.2.2.2.1.exceptionTable.toList = pre ++ x :: suf ∧ (∀ z ∈ pre, z.catchType ≠ 0 ∧ ∃ nm : String, Cond.classLink own z.catchType nm ∈ Ts ∧ va_Nc E nm (gx_s X)) ∧ covers x pc = true ∧ x.catchType ≠ 0 ∧ ∃ name : String, Cond.classLink own x.catchType name ∈ Ts ∧ va_Nw (.castable E name) (gx_s X) ∧ gx X cells slots WX x.handlerPc lv [.ref q]
/-- a call that returns or throws; what is thrown is caught here -/
theorem g_callViC {S : Type} (C : gx_C X cc own Ts tys N Rm) {y : MethodName} {wsY wsY' : List Cond} {rm : Room} {As rest : List Value} {WC : va_W} {W1 : S → va_W} {XP : Nat → State → Prop} {post : Int32 → S → Prop} {xpc : String → Prop} {mc ms index maxL : Nat} {bytes : ByteArray} {b : Nat} {Cn : String} {Tn : u_T} {Nn ci q0 : Nat} {fs : List Value} {retY : Option FieldType} {WX : va_W}
    (hM : ∀ sz, vx_Met (gx_l X) y wsY rm (va_Pc (.ref b :: As) (pW (gx_D X) tys WC (XP sz) sz)) (va_Qi post (qW (gx_D X) tys (va_A WC sz) W1) (va_A WC sz)) (xX (gx_D X) tys (va_A WC sz) WC xpc) mc ms (va_A WC sz)) (hXP : gx_XPs X WC XP)
    (n : Nat) (hg : GoodIn Ts (wsV own index Cn y wsY)) (hw : wsY = Cond.code y bytes maxL retY :: wsY') (hrc : rm.cells = mc) (hrs : rm.slots = ms) (hd : y.cls = Cn ∧ y.cls ≠ "java/lang/invoke/MethodHandle" ∧ y.cls ≠ "java/lang/invoke/VarHandle" ∧ (parseMethodDescriptor y.desc).map (fun d => d.parameters.length) = some n) (hR : rm.frames + 1 ≤ Rm.frames ∧ 8 + (maxL + 11) + rm.locals ≤ Rm.locals)
    (hci : vwCl[ci]? = some (Cn, Tn, Nn)) (hq0 : WC[q0]? = some (b, .inr (ci, fs))) (isC isR perm : List Nat) {wr : va_W} {ws' : S → va_W} (hC : isC.map (fun i => ws[i]?) = WC.map some) (hcn : va_nd isC = true) (hRr : isR.map (fun i => ws[i]?) = wr.map some) (hnd : va_nd isR = true) (hdis : ∀ i ∈ isR, i ∉ isC) (hperm : ∀ u, perm.map (fun i => (wr ++ W1 u)[i]?) = (ws' u).map some) (hpn : va_nd perm = true) (hpx : perm.map (fun i => (wr ++ WC)[i]?) = WX.map some)
    (hn : As.length = n) (hst : st = As.reverse ++ .ref b :: rest) (hW : (rest.map fun v => v.category).sum ≤ 8) (hdg : decode cc pc = .ok (.invokevirtual index, 3)) (hf : cells + mc ≤ Rm.cells ∧ slots + ms ≤ Rm.slots) (pc' : Nat) (hp : pc + 3 = pc')
    (kx : ∀ (E : String) (q : Nat), xpc E → gxC X own Ts pc E (cells + mc) (slots + ms) WX lv q)
    (k : ∀ r u, post r u → gx X (cells + mc) (slots + ms) (ws' u) pc' lv (.int r :: rest)) : gx X cells slots ws pc lv st := by
  obtain ⟨p, l, e, R, s, m, args, below, meth, c, A, D, nL, Q⟩ := X
  subst hp
  subst hst
  have hRm : R = Rm := C.2.2.2.2.2.2.2.2
  subst hRm
  intro H locs ls hP hD hS hl
  have hPc := hP.sub (ws' := WC) isC (fm_of_map hC)
  have hDc := hD.sub (ws' := WC) isC hcn hC
  have hFc := va_free (wc := WC) hD hS C.2.2.2.2.2.2.1 isC hC
  refine vx_calli (vx_runV (As := As) (rest := rest) ⟨C.1, C.2.1, C.2.2.1, C.2.2.2.1, C.2.2.2.2.1⟩ (hM H.size) (cwV n C.2.2.2.2.1 hg hw hrc hrs hd hR) ⟨fun a U g mk q => by obtain ⟨e0, q0, qP, qK, qD, qX⟩ := q; exact ⟨e0, q0, qP, va_K.moved (u := U) (U := U.calling g mk a) (Vm.Alike.refl U.vm) qK, qD, hXP.1 _ a U g mk qX⟩, va_recv C.2.2.2.2.2.1 hPc hci hq0, fun U hU hW => ⟨rfl, by rw [hU], by rw [hU]; exact hPc, va_K.moved hW.alike C.2.2.2.2.2.1, hDc.weaken (fun _ _ _ _ => trivial), hXP.2 H locs U hS hFc hU hW⟩⟩ rfl hn hl.1 rfl (lv_room hW) hdg hf) hS (fun q _ h => hFc q h) hFc (fun q _ h => hFc q h) (fun E ce q9 u t H1 locs1 ht hvm _ hB hz1 hk1 hS hcell hcv hcl => ?_) (fun r u t H1 locs1 ht hvm hw9 hB hz1 hk1 hS => ?_)
  · obtain ⟨hE, hP1, hK1, hD1⟩ := hB
    rw [ht] at hP1
    obtain ⟨hP', hD'⟩ := va_join hP hD isC isR hC hRr hnd hdis hk1 hFc hP1 hD1
    obtain ⟨pre, x, suf, h1, h2, h3, h4, name, h5, h6, h7⟩ := kx E q9 hE
    exact vx_catch C.2.2.2.1 pre x suf h1 (fun z hz => Or.inr ⟨(h2 z hz).1, (h2 z hz).2.choose, C.2.2.2.2.1 _ (h2 z hz).2.choose_spec.1, (h2 z hz).2.choose_spec.2⟩) h3 h4 (C.2.2.2.2.1 _ h5) (va_tabs rfl rfl h6) hcell hcv hcl (h7 H1 locs1 ls (hP'.sub perm (fm_of_map hpx)) (hD'.sub perm hpn hpx) hS hl)
  · obtain ⟨hP1, hK1, hD1⟩ := hB
    rw [ht] at hP1
    obtain ⟨hP', hD'⟩ := va_join hP hD isC isR hC hRr hnd hdis hk1 hFc hP1 hD1
    exact k r u hw9 H1 locs1 ls (hP'.sub perm (fm_of_map (hperm u))) (hD'.sub perm hpn (hperm u)) hS hl
/-- a call that returns or throws; what is thrown is caught here -/
theorem g_callVlC {S : Type} (C : gx_C X cc own Ts tys N Rm) {y : MethodName} {wsY wsY' : List Cond} {rm : Room} {As rest : List Value} {WC : va_W} {W1 : S → va_W} {XP : Nat → State → Prop} {post : Int64 → S → Prop} {xpc : String → Prop} {mc ms index maxL : Nat} {bytes : ByteArray} {b : Nat} {Cn : String} {Tn : u_T} {Nn ci q0 : Nat} {fs : List Value} {retY : Option FieldType} {WX : va_W}
    (hM : ∀ sz, vx_Met (gx_l X) y wsY rm (va_Pc (.ref b :: As) (pW (gx_D X) tys WC (XP sz) sz)) (va_Ql post (qW (gx_D X) tys (va_A WC sz) W1) (va_A WC sz)) (xX (gx_D X) tys (va_A WC sz) WC xpc) mc ms (va_A WC sz)) (hXP : gx_XPs X WC XP)
    (n : Nat) (hg : GoodIn Ts (wsV own index Cn y wsY)) (hw : wsY = Cond.code y bytes maxL retY :: wsY') (hrc : rm.cells = mc) (hrs : rm.slots = ms) (hd : y.cls = Cn ∧ y.cls ≠ "java/lang/invoke/MethodHandle" ∧ y.cls ≠ "java/lang/invoke/VarHandle" ∧ (parseMethodDescriptor y.desc).map (fun d => d.parameters.length) = some n) (hR : rm.frames + 1 ≤ Rm.frames ∧ 8 + (maxL + 11) + rm.locals ≤ Rm.locals)
    (hci : vwCl[ci]? = some (Cn, Tn, Nn)) (hq0 : WC[q0]? = some (b, .inr (ci, fs))) (isC isR perm : List Nat) {wr : va_W} {ws' : S → va_W} (hC : isC.map (fun i => ws[i]?) = WC.map some) (hcn : va_nd isC = true) (hRr : isR.map (fun i => ws[i]?) = wr.map some) (hnd : va_nd isR = true) (hdis : ∀ i ∈ isR, i ∉ isC) (hperm : ∀ u, perm.map (fun i => (wr ++ W1 u)[i]?) = (ws' u).map some) (hpn : va_nd perm = true) (hpx : perm.map (fun i => (wr ++ WC)[i]?) = WX.map some)
    (hn : As.length = n) (hst : st = As.reverse ++ .ref b :: rest) (hW : (rest.map fun v => v.category).sum ≤ 8) (hdg : decode cc pc = .ok (.invokevirtual index, 3)) (hf : cells + mc ≤ Rm.cells ∧ slots + ms ≤ Rm.slots) (pc' : Nat) (hp : pc + 3 = pc')
    (kx : ∀ (E : String) (q : Nat), xpc E → gxC X own Ts pc E (cells + mc) (slots + ms) WX lv q)
    (k : ∀ r u, post r u → gx X (cells + mc) (slots + ms) (ws' u) pc' lv (.long r :: rest)) : gx X cells slots ws pc lv st := by
  obtain ⟨p, l, e, R, s, m, args, below, meth, c, A, D, nL, Q⟩ := X
  subst hp
  subst hst
  have hRm : R = Rm := C.2.2.2.2.2.2.2.2
  subst hRm
  intro H locs ls hP hD hS hl
  have hPc := hP.sub (ws' := WC) isC (fm_of_map hC)
  have hDc := hD.sub (ws' := WC) isC hcn hC
  have hFc := va_free (wc := WC) hD hS C.2.2.2.2.2.2.1 isC hC
  refine vx_calll (vx_runV (As := As) (rest := rest) ⟨C.1, C.2.1, C.2.2.1, C.2.2.2.1, C.2.2.2.2.1⟩ (hM H.size) (cwV n C.2.2.2.2.1 hg hw hrc hrs hd hR) ⟨fun a U g mk q => by obtain ⟨e0, q0, qP, qK, qD, qX⟩ := q; exact ⟨e0, q0, qP, va_K.moved (u := U) (U := U.calling g mk a) (Vm.Alike.refl U.vm) qK, qD, hXP.1 _ a U g mk qX⟩, va_recv C.2.2.2.2.2.1 hPc hci hq0, fun U hU hW => ⟨rfl, by rw [hU], by rw [hU]; exact hPc, va_K.moved hW.alike C.2.2.2.2.2.1, hDc.weaken (fun _ _ _ _ => trivial), hXP.2 H locs U hS hFc hU hW⟩⟩ rfl hn hl.1 rfl (lv_room hW) hdg hf) hS (fun q _ h => hFc q h) hFc (fun q _ h => hFc q h) (fun E ce q9 u t H1 locs1 ht hvm _ hB hz1 hk1 hS hcell hcv hcl => ?_) (fun r u t H1 locs1 ht hvm hw9 hB hz1 hk1 hS => ?_)
  · obtain ⟨hE, hP1, hK1, hD1⟩ := hB
    rw [ht] at hP1
    obtain ⟨hP', hD'⟩ := va_join hP hD isC isR hC hRr hnd hdis hk1 hFc hP1 hD1
    obtain ⟨pre, x, suf, h1, h2, h3, h4, name, h5, h6, h7⟩ := kx E q9 hE
    exact vx_catch C.2.2.2.1 pre x suf h1 (fun z hz => Or.inr ⟨(h2 z hz).1, (h2 z hz).2.choose, C.2.2.2.2.1 _ (h2 z hz).2.choose_spec.1, (h2 z hz).2.choose_spec.2⟩) h3 h4 (C.2.2.2.2.1 _ h5) (va_tabs rfl rfl h6) hcell hcv hcl (h7 H1 locs1 ls (hP'.sub perm (fm_of_map hpx)) (hD'.sub perm hpn hpx) hS hl)
  · obtain ⟨hP1, hK1, hD1⟩ := hB
    rw [ht] at hP1
    obtain ⟨hP', hD'⟩ := va_join hP hD isC isR hC hRr hnd hdis hk1 hFc hP1 hD1
    exact k r u hw9 H1 locs1 ls (hP'.sub perm (fm_of_map (hperm u))) (hD'.sub perm hpn (hperm u)) hS hl
theorem g_callSWis {S : Type} (C : gx_C X cc own Ts tys N Rm) {y : MethodName} {wsY wsY' : List Cond} {rm : Room} {As rest : List Value} {WC : va_W} {W1 : S → va_W} {XP : Nat → State → Prop} {post : Int32 → S → Prop} {mc ms index maxL : Nat} {bytes : ByteArray} {ret : Option FieldType} {hh : List (Nat × Nat × Nat × Nat)}
    (hM : ∀ sz, Met (gx_l X) y wsY rm (va_Pc As (pW (gx_D X) tys WC (XP sz) sz)) (va_Qi post (qW (gx_D X) tys (va_A WC sz) W1) (va_A WC sz)) mc ms (va_A WC sz)) (hXP : gx_XPs X WC XP)
    (n : Nat) (hg : GoodIn Ts (va_wsS own index y wsY)) (hw : wsY = Cond.codeWith y bytes maxL ret hh :: wsY') (hrc : rm.cells = mc) (hrs : rm.slots = ms) (hd : y.cls ≠ "java/lang/invoke/MethodHandle" ∧ y.cls ≠ "java/lang/invoke/VarHandle" ∧ (parseMethodDescriptor y.desc).map (fun d => d.parameters.length) = some n) (hR : rm.frames + 1 ≤ Rm.frames ∧ 8 + (maxL + 11) + rm.locals ≤ Rm.locals)
    (isC isR perm : List Nat) {wr : va_W} {ws' : S → va_W} (hC : isC.map (fun i => ws[i]?) = WC.map some) (hcn : va_nd isC = true) (hRr : isR.map (fun i => ws[i]?) = wr.map some) (hnd : va_nd isR = true) (hdis : ∀ i ∈ isR, i ∉ isC) (hperm : ∀ u, perm.map (fun i => (wr ++ W1 u)[i]?) = (ws' u).map some) (hpn : va_nd perm = true)
    (hn : As.length = n) (hst : st = As.reverse ++ rest) (hW : (rest.map fun v => v.category).sum ≤ 8) (hdg : decode cc pc = .ok (.invokestatic index, 3)) (hf : cells + mc ≤ Rm.cells ∧ slots + ms ≤ Rm.slots) (pc' : Nat) (hp : pc + 3 = pc')
    (k : ∀ r u, post r u → gx X (cells + mc) (slots + ms) (ws' u) pc' lv (.int r :: rest)) : gx X cells slots ws pc lv st := by
  obtain ⟨p, l, e, R, s, m, args, below, meth, c, A, D, nL, Q⟩ := X
  subst hp
  subst hst
  have hRm : R = Rm := C.2.2.2.2.2.2.2.2
  subst hRm
  intro H locs ls hP hD hS hl
  have hPc := hP.sub (ws' := WC) isC (fm_of_map hC)
  have hDc := hD.sub (ws' := WC) isC hcn hC
  have hFc := va_free (wc := WC) hD hS C.2.2.2.2.2.2.1 isC hC
  refine va_calli (vx_runSW (As := As) (rest := rest) ⟨C.1, C.2.1, C.2.2.1, C.2.2.2.1, C.2.2.2.2.1⟩ (hM H.size) (vx_cwSW n C.2.2.2.2.1 hg hw hrc hrs hd hR) ⟨fun a U g mk q => by obtain ⟨e0, q0, qP, qK, qD, qX⟩ := q; exact ⟨e0, q0, qP, va_K.moved (u := U) (U := U.calling g mk a) (Vm.Alike.refl U.vm) qK, qD, hXP.1 H.size a U g mk qX⟩, fun U hU hW => ⟨rfl, by rw [hU], by rw [hU]; exact hPc, va_K.moved hW.alike C.2.2.2.2.2.1, hDc.weaken (fun _ _ _ _ => trivial), hXP.2 H locs U hS hFc hU hW⟩⟩ rfl hn hl.1 rfl (lv_room hW) hdg hf) hS (fun q _ h => hFc q h) hFc (fun r u t H1 locs1 ht hvm hw9 hB hz1 hk1 hS => ?_)
  obtain ⟨hP1, hK1, hD1⟩ := hB
  rw [ht] at hP1
  obtain ⟨hP', hD'⟩ := va_join hP hD isC isR hC hRr hnd hdis hk1 hFc hP1 hD1
  exact k r u hw9 H1 locs1 ls (hP'.sub perm (fm_of_map (hperm u))) (hD'.sub perm hpn (hperm u)) hS hl
end GXW
