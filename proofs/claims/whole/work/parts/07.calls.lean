theorem fm_of_map {α β : Type} {f : α → Option β} {is : List α} {w : List β} (h : is.map f = w.map some) : is.filterMap f = w := by
  have e : is.filterMap f = (is.map f).filterMap id := by rw [List.filterMap_map]; rfl
  rw [e, h, List.filterMap_map]
  show List.filterMap (fun x => some x) w = w
  exact List.filterMap_some
/-- what the callee's own premise needs of the caller's state -/
def gx_XP (X : gxT) (XP : State → Prop) : Prop := (∀ (a : Array Value) (U : State) (g : JFrame) (mk : MethodId), XP U → XP (U.calling g mk a)) ∧ ∀ (H : Heap) (locs : List Loc) (U : State), va_S (gx_A X) (gx_s X).heap H locs → U.heap = H → (gx_s X).WarmedH U.vm → XP U
theorem gx_XP0 {X : gxT} : gx_XP X (fun _ => True) := ⟨fun _ _ _ _ h => h, fun _ _ _ _ _ _ => trivial⟩
/-- calls of a nest mate's private methods: their links -/
def nst (nw : List (String × Nat × MethodName × String)) (U : State) : Prop := ∀ q ∈ nw, va_Nw (.methodLinkNest q.1 q.2.1 q.2.2.1 q.2.2.2) U
theorem gx_nst {X : gxT} {nw nw' : List (String × Nat × MethodName × String)} (h : nst nw (gx_s X)) (hs : ∀ q ∈ nw', q ∈ nw) : gx_XP X (nst nw') :=
  ⟨fun _ _ _ _ h q hq => h q hq, fun _ _ _ _ _ hW q hq => va_Nw.warmM hW (h q (hs q hq))⟩
section GXC
variable {X : gxT} {cells slots : Nat} {ws : va_W} {pc : Nat} {lv : List (Nat × Value)} {st : List Value} {cc : ByteArray} {own : String} {Ts : List Cond} {tys : List (ClassId × FieldType)} {N : Nat} {Rm : Room}
theorem g_callVi {S : Type} (C : gx_C X cc own Ts tys N Rm) {y : MethodName} {wsY wsY' : List Cond} {rm : Room} {As rest : List Value} {WC : va_W} {W1 : S → va_W} {XP : State → Prop} {post : Int32 → S → Prop} {mc ms index maxL : Nat} {bytes : ByteArray} {b : Nat} {Cn : String} {Tn : u_T} {Nn ci q0 : Nat} {fs : List Value} {ret : Option FieldType}
    (hM : ∀ sz, Met (gx_l X) y wsY rm (va_Pc (.ref b :: As) (pW (gx_D X) tys WC XP sz)) (va_Qi post (qW (gx_D X) tys (va_A WC sz) W1) (va_A WC sz)) mc ms (va_A WC sz)) (hXP : gx_XP X XP)
    (n : Nat) (hg : GoodIn Ts (wsV own index Cn y wsY)) (hw : wsY = Cond.code y bytes maxL ret :: wsY') (hrc : rm.cells = mc) (hrs : rm.slots = ms) (hd : y.cls = Cn ∧ y.cls ≠ "java/lang/invoke/MethodHandle" ∧ y.cls ≠ "java/lang/invoke/VarHandle" ∧ (parseMethodDescriptor y.desc).map (fun d => d.parameters.length) = some n) (hR : rm.frames + 1 ≤ Rm.frames ∧ 8 + (maxL + 11) + rm.locals ≤ Rm.locals)
    (hci : vwCl[ci]? = some (Cn, Tn, Nn)) (hq0 : WC[q0]? = some (b, .inr (ci, fs))) (isC isR perm : List Nat) {wr : va_W} {ws' : S → va_W} (hC : isC.map (fun i => ws[i]?) = WC.map some) (hcn : va_nd isC = true) (hRr : isR.map (fun i => ws[i]?) = wr.map some) (hnd : va_nd isR = true) (hdis : ∀ i ∈ isR, i ∉ isC) (hperm : ∀ u, perm.map (fun i => (wr ++ W1 u)[i]?) = (ws' u).map some) (hpn : va_nd perm = true)
    (hn : As.length = n) (hst : st = As.reverse ++ .ref b :: rest) (hW : (rest.map fun v => v.category).sum ≤ 8) (hdg : decode cc pc = .ok (.invokevirtual index, 3)) (hf : cells + mc ≤ Rm.cells ∧ slots + ms ≤ Rm.slots) (pc' : Nat) (hp : pc + 3 = pc')
    (k : ∀ r u, post r u → gx X (cells + mc) (slots + ms) (ws' u) pc' lv (.int r :: rest)) : gx X cells slots ws pc lv st := by
  obtain ⟨p, l, e, R, s, m, args, below, meth, c, A, D, nL, Q⟩ := X
  subst hp
  subst hst
  have hRm : R = Rm := C.2.2.2.2.2.2.2.2
  subst hRm
  intro H locs ls hP hD hS hl
  have hPc := hP.sub (ws' := WC) isC (fm_of_map hC)
  have hDc := hD.sub (ws' := WC) isC hcn hC
  have hFc := va_free (wc := WC) hD hS C.2.2.2.2.2.2.1 isC hC
  refine va_calli (va_runV (As := As) (rest := rest) ⟨C.1, C.2.1, C.2.2.1, C.2.2.2.1, C.2.2.2.2.1⟩ (hM H.size) (cwV n C.2.2.2.2.1 hg hw hrc hrs hd hR) ⟨fun a U g mk q => by obtain ⟨e0, q0, qP, qK, qD, qX⟩ := q; exact ⟨e0, q0, qP, va_K.moved (u := U) (U := U.calling g mk a) (Vm.Alike.refl U.vm) qK, qD, hXP.1 a U g mk qX⟩, va_recv C.2.2.2.2.2.1 hPc hci hq0, fun U hU hW => ⟨rfl, by rw [hU], by rw [hU]; exact hPc, va_K.moved hW.alike C.2.2.2.2.2.1, hDc.weaken (fun _ _ _ _ => trivial), hXP.2 H locs U hS hU hW⟩⟩ rfl hn hl.1 rfl (lv_room hW) hdg hf) hS (fun q _ h => hFc q h) hFc (fun r u t H1 locs1 ht hvm hw9 hB hz1 hk1 hS => ?_)
  obtain ⟨hP1, hK1, hD1⟩ := hB
  rw [ht] at hP1
  obtain ⟨hP', hD'⟩ := va_join hP hD isC isR hC hRr hnd hdis hk1 hFc hP1 hD1
  exact k r u hw9 H1 locs1 ls (hP'.sub perm (fm_of_map (hperm u))) (hD'.sub perm hpn (hperm u)) hS hl
theorem g_callVl {S : Type} (C : gx_C X cc own Ts tys N Rm) {y : MethodName} {wsY wsY' : List Cond} {rm : Room} {As rest : List Value} {WC : va_W} {W1 : S → va_W} {XP : State → Prop} {post : Int64 → S → Prop} {mc ms index maxL : Nat} {bytes : ByteArray} {b : Nat} {Cn : String} {Tn : u_T} {Nn ci q0 : Nat} {fs : List Value} {ret : Option FieldType}
    (hM : ∀ sz, Met (gx_l X) y wsY rm (va_Pc (.ref b :: As) (pW (gx_D X) tys WC XP sz)) (va_Ql post (qW (gx_D X) tys (va_A WC sz) W1) (va_A WC sz)) mc ms (va_A WC sz)) (hXP : gx_XP X XP)
    (n : Nat) (hg : GoodIn Ts (wsV own index Cn y wsY)) (hw : wsY = Cond.code y bytes maxL ret :: wsY') (hrc : rm.cells = mc) (hrs : rm.slots = ms) (hd : y.cls = Cn ∧ y.cls ≠ "java/lang/invoke/MethodHandle" ∧ y.cls ≠ "java/lang/invoke/VarHandle" ∧ (parseMethodDescriptor y.desc).map (fun d => d.parameters.length) = some n) (hR : rm.frames + 1 ≤ Rm.frames ∧ 8 + (maxL + 11) + rm.locals ≤ Rm.locals)
    (hci : vwCl[ci]? = some (Cn, Tn, Nn)) (hq0 : WC[q0]? = some (b, .inr (ci, fs))) (isC isR perm : List Nat) {wr : va_W} {ws' : S → va_W} (hC : isC.map (fun i => ws[i]?) = WC.map some) (hcn : va_nd isC = true) (hRr : isR.map (fun i => ws[i]?) = wr.map some) (hnd : va_nd isR = true) (hdis : ∀ i ∈ isR, i ∉ isC) (hperm : ∀ u, perm.map (fun i => (wr ++ W1 u)[i]?) = (ws' u).map some) (hpn : va_nd perm = true)
    (hn : As.length = n) (hst : st = As.reverse ++ .ref b :: rest) (hW : (rest.map fun v => v.category).sum ≤ 8) (hdg : decode cc pc = .ok (.invokevirtual index, 3)) (hf : cells + mc ≤ Rm.cells ∧ slots + ms ≤ Rm.slots) (pc' : Nat) (hp : pc + 3 = pc')
    (k : ∀ r u, post r u → gx X (cells + mc) (slots + ms) (ws' u) pc' lv (.long r :: rest)) : gx X cells slots ws pc lv st := by
  obtain ⟨p, l, e, R, s, m, args, below, meth, c, A, D, nL, Q⟩ := X
  subst hp
  subst hst
  have hRm : R = Rm := C.2.2.2.2.2.2.2.2
  subst hRm
  intro H locs ls hP hD hS hl
  have hPc := hP.sub (ws' := WC) isC (fm_of_map hC)
  have hDc := hD.sub (ws' := WC) isC hcn hC
  have hFc := va_free (wc := WC) hD hS C.2.2.2.2.2.2.1 isC hC
  refine va_calll (va_runV (As := As) (rest := rest) ⟨C.1, C.2.1, C.2.2.1, C.2.2.2.1, C.2.2.2.2.1⟩ (hM H.size) (cwV n C.2.2.2.2.1 hg hw hrc hrs hd hR) ⟨fun a U g mk q => by obtain ⟨e0, q0, qP, qK, qD, qX⟩ := q; exact ⟨e0, q0, qP, va_K.moved (u := U) (U := U.calling g mk a) (Vm.Alike.refl U.vm) qK, qD, hXP.1 a U g mk qX⟩, va_recv C.2.2.2.2.2.1 hPc hci hq0, fun U hU hW => ⟨rfl, by rw [hU], by rw [hU]; exact hPc, va_K.moved hW.alike C.2.2.2.2.2.1, hDc.weaken (fun _ _ _ _ => trivial), hXP.2 H locs U hS hU hW⟩⟩ rfl hn hl.1 rfl (lv_room hW) hdg hf) hS (fun q _ h => hFc q h) hFc (fun r u t H1 locs1 ht hvm hw9 hB hz1 hk1 hS => ?_)
  obtain ⟨hP1, hK1, hD1⟩ := hB
  rw [ht] at hP1
  obtain ⟨hP', hD'⟩ := va_join hP hD isC isR hC hRr hnd hdis hk1 hFc hP1 hD1
  exact k r u hw9 H1 locs1 ls (hP'.sub perm (fm_of_map (hperm u))) (hD'.sub perm hpn (hperm u)) hS hl
theorem g_callVv {S : Type} (C : gx_C X cc own Ts tys N Rm) {y : MethodName} {wsY wsY' : List Cond} {rm : Room} {As rest : List Value} {WC : va_W} {W1 : S → va_W} {XP : State → Prop} {post : S → Prop} {mc ms index maxL : Nat} {bytes : ByteArray} {b : Nat} {Cn : String} {Tn : u_T} {Nn ci q0 : Nat} {fs : List Value} {ret : Option FieldType}
    (hM : ∀ sz, Met (gx_l X) y wsY rm (va_Pc (.ref b :: As) (pW (gx_D X) tys WC XP sz)) (va_Qv post (qW (gx_D X) tys (va_A WC sz) W1) (va_A WC sz)) mc ms (va_A WC sz)) (hXP : gx_XP X XP)
    (n : Nat) (hg : GoodIn Ts (wsV own index Cn y wsY)) (hw : wsY = Cond.code y bytes maxL ret :: wsY') (hrc : rm.cells = mc) (hrs : rm.slots = ms) (hd : y.cls = Cn ∧ y.cls ≠ "java/lang/invoke/MethodHandle" ∧ y.cls ≠ "java/lang/invoke/VarHandle" ∧ (parseMethodDescriptor y.desc).map (fun d => d.parameters.length) = some n) (hR : rm.frames + 1 ≤ Rm.frames ∧ 8 + (maxL + 11) + rm.locals ≤ Rm.locals)
    (hci : vwCl[ci]? = some (Cn, Tn, Nn)) (hq0 : WC[q0]? = some (b, .inr (ci, fs))) (isC isR perm : List Nat) {wr : va_W} {ws' : S → va_W} (hC : isC.map (fun i => ws[i]?) = WC.map some) (hcn : va_nd isC = true) (hRr : isR.map (fun i => ws[i]?) = wr.map some) (hnd : va_nd isR = true) (hdis : ∀ i ∈ isR, i ∉ isC) (hperm : ∀ u, perm.map (fun i => (wr ++ W1 u)[i]?) = (ws' u).map some) (hpn : va_nd perm = true)
    (hn : As.length = n) (hst : st = As.reverse ++ .ref b :: rest) (hW : (rest.map fun v => v.category).sum ≤ 8) (hdg : decode cc pc = .ok (.invokevirtual index, 3)) (hf : cells + mc ≤ Rm.cells ∧ slots + ms ≤ Rm.slots) (pc' : Nat) (hp : pc + 3 = pc')
    (k : ∀ u, post u → gx X (cells + mc) (slots + ms) (ws' u) pc' lv (rest)) : gx X cells slots ws pc lv st := by
  obtain ⟨p, l, e, R, s, m, args, below, meth, c, A, D, nL, Q⟩ := X
  subst hp
  subst hst
  have hRm : R = Rm := C.2.2.2.2.2.2.2.2
  subst hRm
  intro H locs ls hP hD hS hl
  have hPc := hP.sub (ws' := WC) isC (fm_of_map hC)
  have hDc := hD.sub (ws' := WC) isC hcn hC
  have hFc := va_free (wc := WC) hD hS C.2.2.2.2.2.2.1 isC hC
  refine va_callv (va_runV (As := As) (rest := rest) ⟨C.1, C.2.1, C.2.2.1, C.2.2.2.1, C.2.2.2.2.1⟩ (hM H.size) (cwV n C.2.2.2.2.1 hg hw hrc hrs hd hR) ⟨fun a U g mk q => by obtain ⟨e0, q0, qP, qK, qD, qX⟩ := q; exact ⟨e0, q0, qP, va_K.moved (u := U) (U := U.calling g mk a) (Vm.Alike.refl U.vm) qK, qD, hXP.1 a U g mk qX⟩, va_recv C.2.2.2.2.2.1 hPc hci hq0, fun U hU hW => ⟨rfl, by rw [hU], by rw [hU]; exact hPc, va_K.moved hW.alike C.2.2.2.2.2.1, hDc.weaken (fun _ _ _ _ => trivial), hXP.2 H locs U hS hU hW⟩⟩ rfl hn hl.1 rfl (lv_room hW) hdg hf) hS (fun q _ h => hFc q h) hFc (fun u t H1 locs1 ht hvm hw9 hB hz1 hk1 hS => ?_)
  obtain ⟨hP1, hK1, hD1⟩ := hB
  rw [ht] at hP1
  obtain ⟨hP', hD'⟩ := va_join hP hD isC isR hC hRr hnd hdis hk1 hFc hP1 hD1
  exact k u hw9 H1 locs1 ls (hP'.sub perm (fm_of_map (hperm u))) (hD'.sub perm hpn (hperm u)) hS hl
theorem g_callSi {S : Type} (C : gx_C X cc own Ts tys N Rm) {y : MethodName} {wsY wsY' : List Cond} {rm : Room} {As rest : List Value} {WC : va_W} {W1 : S → va_W} {XP : State → Prop} {post : Int32 → S → Prop} {mc ms index maxL : Nat} {bytes : ByteArray} {ret : Option FieldType}
    (hM : ∀ sz, Met (gx_l X) y wsY rm (va_Pc As (pW (gx_D X) tys WC XP sz)) (va_Qi post (qW (gx_D X) tys (va_A WC sz) W1) (va_A WC sz)) mc ms (va_A WC sz)) (hXP : gx_XP X XP)
    (n : Nat) (hg : GoodIn Ts (va_wsS own index y wsY)) (hw : wsY = Cond.code y bytes maxL ret :: wsY') (hrc : rm.cells = mc) (hrs : rm.slots = ms) (hd : y.cls ≠ "java/lang/invoke/MethodHandle" ∧ y.cls ≠ "java/lang/invoke/VarHandle" ∧ (parseMethodDescriptor y.desc).map (fun d => d.parameters.length) = some n) (hR : rm.frames + 1 ≤ Rm.frames ∧ 8 + (maxL + 11) + rm.locals ≤ Rm.locals)
    (isC isR perm : List Nat) {wr : va_W} {ws' : S → va_W} (hC : isC.map (fun i => ws[i]?) = WC.map some) (hcn : va_nd isC = true) (hRr : isR.map (fun i => ws[i]?) = wr.map some) (hnd : va_nd isR = true) (hdis : ∀ i ∈ isR, i ∉ isC) (hperm : ∀ u, perm.map (fun i => (wr ++ W1 u)[i]?) = (ws' u).map some) (hpn : va_nd perm = true)
    (hn : As.length = n) (hst : st = As.reverse ++ rest) (hW : (rest.map fun v => v.category).sum ≤ 8) (hdg : decode cc pc = .ok (.invokestatic index, 3)) (hf : cells + mc ≤ Rm.cells ∧ slots + ms ≤ Rm.slots) (pc' : Nat) (hp : pc + 3 = pc')
    (k : ∀ r u, post r u → gx X (cells + mc) (slots + ms) (ws' u) pc' lv (.int r :: rest)) : gx X cells slots ws pc lv st := by
  obtain ⟨p, l, e, R, s, m, args, below, meth, c, A, D, nL, Q⟩ := X
  subst hp
  subst hst
  have hRm : R = Rm := C.2.2.2.2.2.2.2.2
  subst hRm
  intro H locs ls hP hD hS hl
  have hPc := hP.sub (ws' := WC) isC (fm_of_map hC)
  have hDc := hD.sub (ws' := WC) isC hcn hC
  have hFc := va_free (wc := WC) hD hS C.2.2.2.2.2.2.1 isC hC
  refine va_calli (va_runS (As := As) (rest := rest) ⟨C.1, C.2.1, C.2.2.1, C.2.2.2.1, C.2.2.2.2.1⟩ (hM H.size) (va_cwS n C.2.2.2.2.1 hg hw hrc hrs hd hR) ⟨fun a U g mk q => by obtain ⟨e0, q0, qP, qK, qD, qX⟩ := q; exact ⟨e0, q0, qP, va_K.moved (u := U) (U := U.calling g mk a) (Vm.Alike.refl U.vm) qK, qD, hXP.1 a U g mk qX⟩, fun U hU hW => ⟨rfl, by rw [hU], by rw [hU]; exact hPc, va_K.moved hW.alike C.2.2.2.2.2.1, hDc.weaken (fun _ _ _ _ => trivial), hXP.2 H locs U hS hU hW⟩⟩ rfl hn hl.1 rfl (lv_room hW) hdg hf) hS (fun q _ h => hFc q h) hFc (fun r u t H1 locs1 ht hvm hw9 hB hz1 hk1 hS => ?_)
  obtain ⟨hP1, hK1, hD1⟩ := hB
  rw [ht] at hP1
  obtain ⟨hP', hD'⟩ := va_join hP hD isC isR hC hRr hnd hdis hk1 hFc hP1 hD1
  exact k r u hw9 H1 locs1 ls (hP'.sub perm (fm_of_map (hperm u))) (hD'.sub perm hpn (hperm u)) hS hl
theorem g_callSl {S : Type} (C : gx_C X cc own Ts tys N Rm) {y : MethodName} {wsY wsY' : List Cond} {rm : Room} {As rest : List Value} {WC : va_W} {W1 : S → va_W} {XP : State → Prop} {post : Int64 → S → Prop} {mc ms index maxL : Nat} {bytes : ByteArray} {ret : Option FieldType}
    (hM : ∀ sz, Met (gx_l X) y wsY rm (va_Pc As (pW (gx_D X) tys WC XP sz)) (va_Ql post (qW (gx_D X) tys (va_A WC sz) W1) (va_A WC sz)) mc ms (va_A WC sz)) (hXP : gx_XP X XP)
    (n : Nat) (hg : GoodIn Ts (va_wsS own index y wsY)) (hw : wsY = Cond.code y bytes maxL ret :: wsY') (hrc : rm.cells = mc) (hrs : rm.slots = ms) (hd : y.cls ≠ "java/lang/invoke/MethodHandle" ∧ y.cls ≠ "java/lang/invoke/VarHandle" ∧ (parseMethodDescriptor y.desc).map (fun d => d.parameters.length) = some n) (hR : rm.frames + 1 ≤ Rm.frames ∧ 8 + (maxL + 11) + rm.locals ≤ Rm.locals)
    (isC isR perm : List Nat) {wr : va_W} {ws' : S → va_W} (hC : isC.map (fun i => ws[i]?) = WC.map some) (hcn : va_nd isC = true) (hRr : isR.map (fun i => ws[i]?) = wr.map some) (hnd : va_nd isR = true) (hdis : ∀ i ∈ isR, i ∉ isC) (hperm : ∀ u, perm.map (fun i => (wr ++ W1 u)[i]?) = (ws' u).map some) (hpn : va_nd perm = true)
    (hn : As.length = n) (hst : st = As.reverse ++ rest) (hW : (rest.map fun v => v.category).sum ≤ 8) (hdg : decode cc pc = .ok (.invokestatic index, 3)) (hf : cells + mc ≤ Rm.cells ∧ slots + ms ≤ Rm.slots) (pc' : Nat) (hp : pc + 3 = pc')
    (k : ∀ r u, post r u → gx X (cells + mc) (slots + ms) (ws' u) pc' lv (.long r :: rest)) : gx X cells slots ws pc lv st := by
  obtain ⟨p, l, e, R, s, m, args, below, meth, c, A, D, nL, Q⟩ := X
  subst hp
  subst hst
  have hRm : R = Rm := C.2.2.2.2.2.2.2.2
  subst hRm
  intro H locs ls hP hD hS hl
  have hPc := hP.sub (ws' := WC) isC (fm_of_map hC)
  have hDc := hD.sub (ws' := WC) isC hcn hC
  have hFc := va_free (wc := WC) hD hS C.2.2.2.2.2.2.1 isC hC
  refine va_calll (va_runS (As := As) (rest := rest) ⟨C.1, C.2.1, C.2.2.1, C.2.2.2.1, C.2.2.2.2.1⟩ (hM H.size) (va_cwS n C.2.2.2.2.1 hg hw hrc hrs hd hR) ⟨fun a U g mk q => by obtain ⟨e0, q0, qP, qK, qD, qX⟩ := q; exact ⟨e0, q0, qP, va_K.moved (u := U) (U := U.calling g mk a) (Vm.Alike.refl U.vm) qK, qD, hXP.1 a U g mk qX⟩, fun U hU hW => ⟨rfl, by rw [hU], by rw [hU]; exact hPc, va_K.moved hW.alike C.2.2.2.2.2.1, hDc.weaken (fun _ _ _ _ => trivial), hXP.2 H locs U hS hU hW⟩⟩ rfl hn hl.1 rfl (lv_room hW) hdg hf) hS (fun q _ h => hFc q h) hFc (fun r u t H1 locs1 ht hvm hw9 hB hz1 hk1 hS => ?_)
  obtain ⟨hP1, hK1, hD1⟩ := hB
  rw [ht] at hP1
  obtain ⟨hP', hD'⟩ := va_join hP hD isC isR hC hRr hnd hdis hk1 hFc hP1 hD1
  exact k r u hw9 H1 locs1 ls (hP'.sub perm (fm_of_map (hperm u))) (hD'.sub perm hpn (hperm u)) hS hl
theorem g_callSv {S : Type} (C : gx_C X cc own Ts tys N Rm) {y : MethodName} {wsY wsY' : List Cond} {rm : Room} {As rest : List Value} {WC : va_W} {W1 : S → va_W} {XP : State → Prop} {post : S → Prop} {mc ms index maxL : Nat} {bytes : ByteArray} {ret : Option FieldType}
    (hM : ∀ sz, Met (gx_l X) y wsY rm (va_Pc As (pW (gx_D X) tys WC XP sz)) (va_Qv post (qW (gx_D X) tys (va_A WC sz) W1) (va_A WC sz)) mc ms (va_A WC sz)) (hXP : gx_XP X XP)
    (n : Nat) (hg : GoodIn Ts (va_wsS own index y wsY)) (hw : wsY = Cond.code y bytes maxL ret :: wsY') (hrc : rm.cells = mc) (hrs : rm.slots = ms) (hd : y.cls ≠ "java/lang/invoke/MethodHandle" ∧ y.cls ≠ "java/lang/invoke/VarHandle" ∧ (parseMethodDescriptor y.desc).map (fun d => d.parameters.length) = some n) (hR : rm.frames + 1 ≤ Rm.frames ∧ 8 + (maxL + 11) + rm.locals ≤ Rm.locals)
    (isC isR perm : List Nat) {wr : va_W} {ws' : S → va_W} (hC : isC.map (fun i => ws[i]?) = WC.map some) (hcn : va_nd isC = true) (hRr : isR.map (fun i => ws[i]?) = wr.map some) (hnd : va_nd isR = true) (hdis : ∀ i ∈ isR, i ∉ isC) (hperm : ∀ u, perm.map (fun i => (wr ++ W1 u)[i]?) = (ws' u).map some) (hpn : va_nd perm = true)
    (hn : As.length = n) (hst : st = As.reverse ++ rest) (hW : (rest.map fun v => v.category).sum ≤ 8) (hdg : decode cc pc = .ok (.invokestatic index, 3)) (hf : cells + mc ≤ Rm.cells ∧ slots + ms ≤ Rm.slots) (pc' : Nat) (hp : pc + 3 = pc')
    (k : ∀ u, post u → gx X (cells + mc) (slots + ms) (ws' u) pc' lv (rest)) : gx X cells slots ws pc lv st := by
  obtain ⟨p, l, e, R, s, m, args, below, meth, c, A, D, nL, Q⟩ := X
  subst hp
  subst hst
  have hRm : R = Rm := C.2.2.2.2.2.2.2.2
  subst hRm
  intro H locs ls hP hD hS hl
  have hPc := hP.sub (ws' := WC) isC (fm_of_map hC)
  have hDc := hD.sub (ws' := WC) isC hcn hC
  have hFc := va_free (wc := WC) hD hS C.2.2.2.2.2.2.1 isC hC
  refine va_callv (va_runS (As := As) (rest := rest) ⟨C.1, C.2.1, C.2.2.1, C.2.2.2.1, C.2.2.2.2.1⟩ (hM H.size) (va_cwS n C.2.2.2.2.1 hg hw hrc hrs hd hR) ⟨fun a U g mk q => by obtain ⟨e0, q0, qP, qK, qD, qX⟩ := q; exact ⟨e0, q0, qP, va_K.moved (u := U) (U := U.calling g mk a) (Vm.Alike.refl U.vm) qK, qD, hXP.1 a U g mk qX⟩, fun U hU hW => ⟨rfl, by rw [hU], by rw [hU]; exact hPc, va_K.moved hW.alike C.2.2.2.2.2.1, hDc.weaken (fun _ _ _ _ => trivial), hXP.2 H locs U hS hU hW⟩⟩ rfl hn hl.1 rfl (lv_room hW) hdg hf) hS (fun q _ h => hFc q h) hFc (fun u t H1 locs1 ht hvm hw9 hB hz1 hk1 hS => ?_)
  obtain ⟨hP1, hK1, hD1⟩ := hB
  rw [ht] at hP1
  obtain ⟨hP', hD'⟩ := va_join hP hD isC isR hC hRr hnd hdis hk1 hFc hP1 hD1
  exact k u hw9 H1 locs1 ls (hP'.sub perm (fm_of_map (hperm u))) (hD'.sub perm hpn (hperm u)) hS hl
theorem g_callIv {S : Type} (C : gx_C X cc own Ts tys N Rm) {y : MethodName} {wsY wsY' : List Cond} {rm : Room} {As rest : List Value} {WC : va_W} {W1 : S → va_W} {XP : State → Prop} {post : S → Prop} {mc ms index maxL : Nat} {bytes : ByteArray} {b : Nat}
    (hM : ∀ sz, Met (gx_l X) y wsY rm (va_Pc (.ref b :: As) (pW (gx_D X) tys WC XP sz)) (va_Qv post (qW (gx_D X) tys (va_A WC sz) W1) (va_A WC sz)) mc ms (va_A WC sz)) (hXP : gx_XP X XP)
    (n : Nat) (hg : GoodIn Ts wsY) (hini : Cond.initialized y.cls ∈ Ts) (hlk : Cond.methodLink own index y ∈ Ts) (hinm : Cond.instanceMethod y ∈ Ts) (hy1 : y.name = "<init>") (hw : wsY = Cond.code y bytes maxL none :: wsY') (hrc : rm.cells = mc) (hrs : rm.slots = ms) (hd : y.cls ≠ "java/lang/invoke/MethodHandle" ∧ y.cls ≠ "java/lang/invoke/VarHandle" ∧ (parseMethodDescriptor y.desc).map (fun d => d.parameters.length) = some n) (hR : rm.frames + 1 ≤ Rm.frames ∧ 8 + (maxL + 11) + rm.locals ≤ Rm.locals)
    (isC isR perm : List Nat) {wr : va_W} {ws' : S → va_W} (hC : isC.map (fun i => ws[i]?) = WC.map some) (hcn : va_nd isC = true) (hRr : isR.map (fun i => ws[i]?) = wr.map some) (hnd : va_nd isR = true) (hdis : ∀ i ∈ isR, i ∉ isC) (hperm : ∀ u, perm.map (fun i => (wr ++ W1 u)[i]?) = (ws' u).map some) (hpn : va_nd perm = true)
    (hn : As.length = n) (hst : st = As.reverse ++ .ref b :: rest) (hW : (rest.map fun v => v.category).sum ≤ 8) (hdg : decode cc pc = .ok (.invokespecial index, 3)) (hf : cells + mc ≤ Rm.cells ∧ slots + ms ≤ Rm.slots) (pc' : Nat) (hp : pc + 3 = pc')
    (k : ∀ u, post u → gx X (cells + mc) (slots + ms) (ws' u) pc' lv (rest)) : gx X cells slots ws pc lv st := by
  obtain ⟨p, l, e, R, s, m, args, below, meth, c, A, D, nL, Q⟩ := X
  subst hp
  subst hst
  have hRm : R = Rm := C.2.2.2.2.2.2.2.2
  subst hRm
  intro H locs ls hP hD hS hl
  have hPc := hP.sub (ws' := WC) isC (fm_of_map hC)
  have hDc := hD.sub (ws' := WC) isC hcn hC
  have hFc := va_free (wc := WC) hD hS C.2.2.2.2.2.2.1 isC hC
  refine va_callv (va_runI (As := As) (rest := rest) ⟨C.1, C.2.1, C.2.2.1, C.2.2.2.1, C.2.2.2.2.1⟩ (hM H.size) (cwI n C.2.2.2.2.1 hg hw hrc hrs (C.2.2.2.2.1 _ hini) (C.2.2.2.2.1 _ hlk) (C.2.2.2.2.1 _ hinm) hy1 hd hR) ⟨fun a U g mk q => by obtain ⟨e0, q0, qP, qK, qD, qX⟩ := q; exact ⟨e0, q0, qP, va_K.moved (u := U) (U := U.calling g mk a) (Vm.Alike.refl U.vm) qK, qD, hXP.1 a U g mk qX⟩, fun U hU hW => ⟨rfl, by rw [hU], by rw [hU]; exact hPc, va_K.moved hW.alike C.2.2.2.2.2.1, hDc.weaken (fun _ _ _ _ => trivial), hXP.2 H locs U hS hU hW⟩⟩ rfl hn hl.1 rfl (lv_room hW) hdg hf) hS (fun q _ h => hFc q h) hFc (fun u t H1 locs1 ht hvm hw9 hB hz1 hk1 hS => ?_)
  obtain ⟨hP1, hK1, hD1⟩ := hB
  rw [ht] at hP1
  obtain ⟨hP', hD'⟩ := va_join hP hD isC isR hC hRr hnd hdis hk1 hFc hP1 hD1
  exact k u hw9 H1 locs1 ls (hP'.sub perm (fm_of_map (hperm u))) (hD'.sub perm hpn (hperm u)) hS hl
theorem g_callSNi {S : Type} (C : gx_C X cc own Ts tys N Rm) {y : MethodName} {wsY wsY' : List Cond} {rm : Room} {As rest : List Value} {WC : va_W} {W1 : S → va_W} {XP : State → Prop} {post : Int32 → S → Prop} {mc ms index maxL : Nat} {bytes : ByteArray} {ret : Option FieldType} {host : String}
    (hM : ∀ sz, Met (gx_l X) y wsY rm (va_Pc As (pW (gx_D X) tys WC XP sz)) (va_Qi post (qW (gx_D X) tys (va_A WC sz) W1) (va_A WC sz)) mc ms (va_A WC sz)) (hXP : gx_XP X XP)
    (n : Nat) (hg : GoodIn Ts wsY) (hlk : va_Nw (.methodLinkNest own index y host) (gx_s X)) (hini : Cond.initialized y.cls ∈ Ts) (hsta : Cond.static y ∈ Ts) (hw : wsY = Cond.code y bytes maxL ret :: wsY') (hrc : rm.cells = mc) (hrs : rm.slots = ms) (hd : y.cls ≠ "java/lang/invoke/MethodHandle" ∧ y.cls ≠ "java/lang/invoke/VarHandle" ∧ (parseMethodDescriptor y.desc).map (fun d => d.parameters.length) = some n) (hR : rm.frames + 1 ≤ Rm.frames ∧ 8 + (maxL + 11) + rm.locals ≤ Rm.locals)
    (isC isR perm : List Nat) {wr : va_W} {ws' : S → va_W} (hC : isC.map (fun i => ws[i]?) = WC.map some) (hcn : va_nd isC = true) (hRr : isR.map (fun i => ws[i]?) = wr.map some) (hnd : va_nd isR = true) (hdis : ∀ i ∈ isR, i ∉ isC) (hperm : ∀ u, perm.map (fun i => (wr ++ W1 u)[i]?) = (ws' u).map some) (hpn : va_nd perm = true)
    (hn : As.length = n) (hst : st = As.reverse ++ rest) (hW : (rest.map fun v => v.category).sum ≤ 8) (hdg : decode cc pc = .ok (.invokestatic index, 3)) (hf : cells + mc ≤ Rm.cells ∧ slots + ms ≤ Rm.slots) (pc' : Nat) (hp : pc + 3 = pc')
    (k : ∀ r u, post r u → gx X (cells + mc) (slots + ms) (ws' u) pc' lv (.int r :: rest)) : gx X cells slots ws pc lv st := by
  obtain ⟨p, l, e, R, s, m, args, below, meth, c, A, D, nL, Q⟩ := X
  subst hp
  subst hst
  have hRm : R = Rm := C.2.2.2.2.2.2.2.2
  subst hRm
  intro H locs ls hP hD hS hl
  have hPc := hP.sub (ws' := WC) isC (fm_of_map hC)
  have hDc := hD.sub (ws' := WC) isC hcn hC
  have hFc := va_free (wc := WC) hD hS C.2.2.2.2.2.2.1 isC hC
  refine va_calli (va_runSN (As := As) (rest := rest) ⟨C.1, C.2.1, C.2.2.1, C.2.2.2.1, C.2.2.2.2.1⟩ (hM H.size) ⟨va_cnB n C.2.2.2.2.1 hg hw hrc hrs hlk (C.2.2.2.2.1 _ hini) hd hR, C.2.2.2.2.1 _ hsta, trivial⟩ ⟨fun a U g mk q => by obtain ⟨e0, q0, qP, qK, qD, qX⟩ := q; exact ⟨e0, q0, qP, va_K.moved (u := U) (U := U.calling g mk a) (Vm.Alike.refl U.vm) qK, qD, hXP.1 a U g mk qX⟩, fun U hU hW => ⟨rfl, by rw [hU], by rw [hU]; exact hPc, va_K.moved hW.alike C.2.2.2.2.2.1, hDc.weaken (fun _ _ _ _ => trivial), hXP.2 H locs U hS hU hW⟩⟩ rfl hn hl.1 rfl (lv_room hW) hdg hf) hS (fun q _ h => hFc q h) hFc (fun r u t H1 locs1 ht hvm hw9 hB hz1 hk1 hS => ?_)
  obtain ⟨hP1, hK1, hD1⟩ := hB
  rw [ht] at hP1
  obtain ⟨hP', hD'⟩ := va_join hP hD isC isR hC hRr hnd hdis hk1 hFc hP1 hD1
  exact k r u hw9 H1 locs1 ls (hP'.sub perm (fm_of_map (hperm u))) (hD'.sub perm hpn (hperm u)) hS hl
theorem g_callSNl {S : Type} (C : gx_C X cc own Ts tys N Rm) {y : MethodName} {wsY wsY' : List Cond} {rm : Room} {As rest : List Value} {WC : va_W} {W1 : S → va_W} {XP : State → Prop} {post : Int64 → S → Prop} {mc ms index maxL : Nat} {bytes : ByteArray} {ret : Option FieldType} {host : String}
    (hM : ∀ sz, Met (gx_l X) y wsY rm (va_Pc As (pW (gx_D X) tys WC XP sz)) (va_Ql post (qW (gx_D X) tys (va_A WC sz) W1) (va_A WC sz)) mc ms (va_A WC sz)) (hXP : gx_XP X XP)
    (n : Nat) (hg : GoodIn Ts wsY) (hlk : va_Nw (.methodLinkNest own index y host) (gx_s X)) (hini : Cond.initialized y.cls ∈ Ts) (hsta : Cond.static y ∈ Ts) (hw : wsY = Cond.code y bytes maxL ret :: wsY') (hrc : rm.cells = mc) (hrs : rm.slots = ms) (hd : y.cls ≠ "java/lang/invoke/MethodHandle" ∧ y.cls ≠ "java/lang/invoke/VarHandle" ∧ (parseMethodDescriptor y.desc).map (fun d => d.parameters.length) = some n) (hR : rm.frames + 1 ≤ Rm.frames ∧ 8 + (maxL + 11) + rm.locals ≤ Rm.locals)
    (isC isR perm : List Nat) {wr : va_W} {ws' : S → va_W} (hC : isC.map (fun i => ws[i]?) = WC.map some) (hcn : va_nd isC = true) (hRr : isR.map (fun i => ws[i]?) = wr.map some) (hnd : va_nd isR = true) (hdis : ∀ i ∈ isR, i ∉ isC) (hperm : ∀ u, perm.map (fun i => (wr ++ W1 u)[i]?) = (ws' u).map some) (hpn : va_nd perm = true)
    (hn : As.length = n) (hst : st = As.reverse ++ rest) (hW : (rest.map fun v => v.category).sum ≤ 8) (hdg : decode cc pc = .ok (.invokestatic index, 3)) (hf : cells + mc ≤ Rm.cells ∧ slots + ms ≤ Rm.slots) (pc' : Nat) (hp : pc + 3 = pc')
    (k : ∀ r u, post r u → gx X (cells + mc) (slots + ms) (ws' u) pc' lv (.long r :: rest)) : gx X cells slots ws pc lv st := by
  obtain ⟨p, l, e, R, s, m, args, below, meth, c, A, D, nL, Q⟩ := X
  subst hp
  subst hst
  have hRm : R = Rm := C.2.2.2.2.2.2.2.2
  subst hRm
  intro H locs ls hP hD hS hl
  have hPc := hP.sub (ws' := WC) isC (fm_of_map hC)
  have hDc := hD.sub (ws' := WC) isC hcn hC
  have hFc := va_free (wc := WC) hD hS C.2.2.2.2.2.2.1 isC hC
  refine va_calll (va_runSN (As := As) (rest := rest) ⟨C.1, C.2.1, C.2.2.1, C.2.2.2.1, C.2.2.2.2.1⟩ (hM H.size) ⟨va_cnB n C.2.2.2.2.1 hg hw hrc hrs hlk (C.2.2.2.2.1 _ hini) hd hR, C.2.2.2.2.1 _ hsta, trivial⟩ ⟨fun a U g mk q => by obtain ⟨e0, q0, qP, qK, qD, qX⟩ := q; exact ⟨e0, q0, qP, va_K.moved (u := U) (U := U.calling g mk a) (Vm.Alike.refl U.vm) qK, qD, hXP.1 a U g mk qX⟩, fun U hU hW => ⟨rfl, by rw [hU], by rw [hU]; exact hPc, va_K.moved hW.alike C.2.2.2.2.2.1, hDc.weaken (fun _ _ _ _ => trivial), hXP.2 H locs U hS hU hW⟩⟩ rfl hn hl.1 rfl (lv_room hW) hdg hf) hS (fun q _ h => hFc q h) hFc (fun r u t H1 locs1 ht hvm hw9 hB hz1 hk1 hS => ?_)
  obtain ⟨hP1, hK1, hD1⟩ := hB
  rw [ht] at hP1
  obtain ⟨hP', hD'⟩ := va_join hP hD isC isR hC hRr hnd hdis hk1 hFc hP1 hD1
  exact k r u hw9 H1 locs1 ls (hP'.sub perm (fm_of_map (hperm u))) (hD'.sub perm hpn (hperm u)) hS hl
theorem g_callSNv {S : Type} (C : gx_C X cc own Ts tys N Rm) {y : MethodName} {wsY wsY' : List Cond} {rm : Room} {As rest : List Value} {WC : va_W} {W1 : S → va_W} {XP : State → Prop} {post : S → Prop} {mc ms index maxL : Nat} {bytes : ByteArray} {ret : Option FieldType} {host : String}
    (hM : ∀ sz, Met (gx_l X) y wsY rm (va_Pc As (pW (gx_D X) tys WC XP sz)) (va_Qv post (qW (gx_D X) tys (va_A WC sz) W1) (va_A WC sz)) mc ms (va_A WC sz)) (hXP : gx_XP X XP)
    (n : Nat) (hg : GoodIn Ts wsY) (hlk : va_Nw (.methodLinkNest own index y host) (gx_s X)) (hini : Cond.initialized y.cls ∈ Ts) (hsta : Cond.static y ∈ Ts) (hw : wsY = Cond.code y bytes maxL ret :: wsY') (hrc : rm.cells = mc) (hrs : rm.slots = ms) (hd : y.cls ≠ "java/lang/invoke/MethodHandle" ∧ y.cls ≠ "java/lang/invoke/VarHandle" ∧ (parseMethodDescriptor y.desc).map (fun d => d.parameters.length) = some n) (hR : rm.frames + 1 ≤ Rm.frames ∧ 8 + (maxL + 11) + rm.locals ≤ Rm.locals)
    (isC isR perm : List Nat) {wr : va_W} {ws' : S → va_W} (hC : isC.map (fun i => ws[i]?) = WC.map some) (hcn : va_nd isC = true) (hRr : isR.map (fun i => ws[i]?) = wr.map some) (hnd : va_nd isR = true) (hdis : ∀ i ∈ isR, i ∉ isC) (hperm : ∀ u, perm.map (fun i => (wr ++ W1 u)[i]?) = (ws' u).map some) (hpn : va_nd perm = true)
    (hn : As.length = n) (hst : st = As.reverse ++ rest) (hW : (rest.map fun v => v.category).sum ≤ 8) (hdg : decode cc pc = .ok (.invokestatic index, 3)) (hf : cells + mc ≤ Rm.cells ∧ slots + ms ≤ Rm.slots) (pc' : Nat) (hp : pc + 3 = pc')
    (k : ∀ u, post u → gx X (cells + mc) (slots + ms) (ws' u) pc' lv (rest)) : gx X cells slots ws pc lv st := by
  obtain ⟨p, l, e, R, s, m, args, below, meth, c, A, D, nL, Q⟩ := X
  subst hp
  subst hst
  have hRm : R = Rm := C.2.2.2.2.2.2.2.2
  subst hRm
  intro H locs ls hP hD hS hl
  have hPc := hP.sub (ws' := WC) isC (fm_of_map hC)
  have hDc := hD.sub (ws' := WC) isC hcn hC
  have hFc := va_free (wc := WC) hD hS C.2.2.2.2.2.2.1 isC hC
  refine va_callv (va_runSN (As := As) (rest := rest) ⟨C.1, C.2.1, C.2.2.1, C.2.2.2.1, C.2.2.2.2.1⟩ (hM H.size) ⟨va_cnB n C.2.2.2.2.1 hg hw hrc hrs hlk (C.2.2.2.2.1 _ hini) hd hR, C.2.2.2.2.1 _ hsta, trivial⟩ ⟨fun a U g mk q => by obtain ⟨e0, q0, qP, qK, qD, qX⟩ := q; exact ⟨e0, q0, qP, va_K.moved (u := U) (U := U.calling g mk a) (Vm.Alike.refl U.vm) qK, qD, hXP.1 a U g mk qX⟩, fun U hU hW => ⟨rfl, by rw [hU], by rw [hU]; exact hPc, va_K.moved hW.alike C.2.2.2.2.2.1, hDc.weaken (fun _ _ _ _ => trivial), hXP.2 H locs U hS hU hW⟩⟩ rfl hn hl.1 rfl (lv_room hW) hdg hf) hS (fun q _ h => hFc q h) hFc (fun u t H1 locs1 ht hvm hw9 hB hz1 hk1 hS => ?_)
  obtain ⟨hP1, hK1, hD1⟩ := hB
  rw [ht] at hP1
  obtain ⟨hP', hD'⟩ := va_join hP hD isC isR hC hRr hnd hdis hk1 hFc hP1 hD1
  exact k u hw9 H1 locs1 ls (hP'.sub perm (fm_of_map (hperm u))) (hD'.sub perm hpn (hperm u)) hS hl
theorem g_callINv {S : Type} (C : gx_C X cc own Ts tys N Rm) {y : MethodName} {wsY wsY' : List Cond} {rm : Room} {As rest : List Value} {WC : va_W} {W1 : S → va_W} {XP : State → Prop} {post : S → Prop} {mc ms index maxL : Nat} {bytes : ByteArray} {b : Nat} {host : String}
    (hM : ∀ sz, Met (gx_l X) y wsY rm (va_Pc (.ref b :: As) (pW (gx_D X) tys WC XP sz)) (va_Qv post (qW (gx_D X) tys (va_A WC sz) W1) (va_A WC sz)) mc ms (va_A WC sz)) (hXP : gx_XP X XP)
    (n : Nat) (hg : GoodIn Ts wsY) (hlk : va_Nw (.methodLinkNest own index y host) (gx_s X)) (hini : Cond.initialized y.cls ∈ Ts) (hinm : Cond.instanceMethod y ∈ Ts) (hy1 : y.name = "<init>") (hw : wsY = Cond.code y bytes maxL none :: wsY') (hrc : rm.cells = mc) (hrs : rm.slots = ms) (hd : y.cls ≠ "java/lang/invoke/MethodHandle" ∧ y.cls ≠ "java/lang/invoke/VarHandle" ∧ (parseMethodDescriptor y.desc).map (fun d => d.parameters.length) = some n) (hR : rm.frames + 1 ≤ Rm.frames ∧ 8 + (maxL + 11) + rm.locals ≤ Rm.locals)
    (isC isR perm : List Nat) {wr : va_W} {ws' : S → va_W} (hC : isC.map (fun i => ws[i]?) = WC.map some) (hcn : va_nd isC = true) (hRr : isR.map (fun i => ws[i]?) = wr.map some) (hnd : va_nd isR = true) (hdis : ∀ i ∈ isR, i ∉ isC) (hperm : ∀ u, perm.map (fun i => (wr ++ W1 u)[i]?) = (ws' u).map some) (hpn : va_nd perm = true)
    (hn : As.length = n) (hst : st = As.reverse ++ .ref b :: rest) (hW : (rest.map fun v => v.category).sum ≤ 8) (hdg : decode cc pc = .ok (.invokespecial index, 3)) (hf : cells + mc ≤ Rm.cells ∧ slots + ms ≤ Rm.slots) (pc' : Nat) (hp : pc + 3 = pc')
    (k : ∀ u, post u → gx X (cells + mc) (slots + ms) (ws' u) pc' lv (rest)) : gx X cells slots ws pc lv st := by
  obtain ⟨p, l, e, R, s, m, args, below, meth, c, A, D, nL, Q⟩ := X
  subst hp
  subst hst
  have hRm : R = Rm := C.2.2.2.2.2.2.2.2
  subst hRm
  intro H locs ls hP hD hS hl
  have hPc := hP.sub (ws' := WC) isC (fm_of_map hC)
  have hDc := hD.sub (ws' := WC) isC hcn hC
  have hFc := va_free (wc := WC) hD hS C.2.2.2.2.2.2.1 isC hC
  refine va_callv (va_runIN (As := As) (rest := rest) ⟨C.1, C.2.1, C.2.2.1, C.2.2.2.1, C.2.2.2.2.1⟩ (hM H.size) ⟨va_cnB n C.2.2.2.2.1 hg hw hrc hrs hlk (C.2.2.2.2.1 _ hini) hd hR, hy1, C.2.2.2.2.1 _ hinm⟩ ⟨fun a U g mk q => by obtain ⟨e0, q0, qP, qK, qD, qX⟩ := q; exact ⟨e0, q0, qP, va_K.moved (u := U) (U := U.calling g mk a) (Vm.Alike.refl U.vm) qK, qD, hXP.1 a U g mk qX⟩, fun U hU hW => ⟨rfl, by rw [hU], by rw [hU]; exact hPc, va_K.moved hW.alike C.2.2.2.2.2.1, hDc.weaken (fun _ _ _ _ => trivial), hXP.2 H locs U hS hU hW⟩⟩ rfl hn hl.1 rfl (lv_room hW) hdg hf) hS (fun q _ h => hFc q h) hFc (fun u t H1 locs1 ht hvm hw9 hB hz1 hk1 hS => ?_)
  obtain ⟨hP1, hK1, hD1⟩ := hB
  rw [ht] at hP1
  obtain ⟨hP', hD'⟩ := va_join hP hD isC isR hC hRr hnd hdis hk1 hFc hP1 hD1
  exact k u hw9 H1 locs1 ls (hP'.sub perm (fm_of_map (hperm u))) (hD'.sub perm hpn (hperm u)) hS hl
end GXC
