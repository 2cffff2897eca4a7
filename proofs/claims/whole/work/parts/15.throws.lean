abbrev xIO : String := "java/lang/IndexOutOfBoundsException"
abbrev xIA : String := "java/lang/IllegalArgumentException"
abbrev xNm : List String := ["java/lang/RuntimeException", "java/lang/Exception"]
/-- the words of a throw that aren't good ones -/
def thW : List Cond := [.declares (Bundle.initS "java/lang/RuntimeException"), .declares (Bundle.initS "java/lang/Exception"), .declares (Bundle.initS Bundle.tN), .castable xIO xIO, .castable xIA xIA]
theorem thW_on : ∀ w ∈ thW, w.onTables = true := by
  intro w h
  simp only [thW, List.mem_cons, List.not_mem_nil, or_false] at h
  rcases h with rfl | rfl | rfl | rfl | rfl <;> rfl
theorem thW_warm {s U : State} (hW : s.WarmedH U.vm) (h : ∀ w ∈ thW, va_Nw w s) : ∀ w ∈ thW, va_Nw w U := by
  intro w hw
  have h0 := h w hw
  simp only [thW, List.mem_cons, List.not_mem_nil, or_false] at hw
  rcases hw with rfl | rfl | rfl | rfl | rfl
  · exact va_Nw.warmD hW h0
  · exact va_Nw.warmD hW h0
  · exact va_Nw.warmD hW h0
  · exact va_Nw.warmC hW h0
  · exact va_Nw.warmC hW h0
/-- what a throw needs of the launch, the statics and the texts -/
def thr (l : Launch) (A : Nat → Prop) (U : State) (H : Heap) : Prop := l.stackTraces = false ∧ vx_Zq Bundle.tN "UNASSIGNED_STACK" Bundle.steD A U H ∧ vx_Zq Bundle.tN "SUPPRESSED_SENTINEL" Bundle.listD A U H ∧ (∃ sa, vk_R RX6 192 "there is no such number" sa U) ∧ (∃ sa, vk_R RX6 201 "a number is out of its range" sa U) ∧ (∃ sa, vk_R RX6 197 "an index is below 0" sa U) ∧ ∀ w ∈ thW, va_Nw w U
theorem thr.to {l : Launch} {A B : Nat → Prop} {s U : State} {H : Heap} {locs : List Loc} (h : thr l A s s.heap) (hS : va_S A s.heap H locs) (hB : ∀ q, B q → A q) (hU : U.heap = H) (hW : s.WarmedH U.vm) : thr l B U U.heap := by
  obtain ⟨h1, h2, h3, ⟨a4, h4⟩, ⟨a5, h5⟩, ⟨a6, h6⟩, h7⟩ := h
  rw [hU]
  exact ⟨h1, ((h2.kept hS.2.1).narrow hB).moved hW.alike, ((h3.kept hS.2.1).narrow hB).moved hW.alike, ⟨a4, h4.warm hW⟩, ⟨a5, h5.warm hW⟩, ⟨a6, h6.warm hW⟩, thW_warm hW h7⟩
theorem thr.blind {l : Launch} {A : Nat → Prop} {U : State} (a : Array Value) (g : JFrame) (mk : MethodId) (h : thr l A U U.heap) : thr l A (U.calling g mk a) (U.calling g mk a).heap := by
  obtain ⟨h1, h2, h3, ⟨a4, h4⟩, ⟨a5, h5⟩, ⟨a6, h6⟩, h7⟩ := h
  exact ⟨h1, h2.moved (U := U.calling g mk a) (Vm.Alike.refl U.vm), h3.moved (U := U.calling g mk a) (Vm.Alike.refl U.vm), ⟨a4, vk_R.same rfl h4⟩, ⟨a5, vk_R.same rfl h5⟩, ⟨a6, vk_R.same rfl h6⟩, fun w hw => va_Nw.same (u := U) (U := U.calling g mk a) (thW_on w hw) rfl (h7 w hw)⟩
/-- a world behind a throw: as it was -/
abbrev qX (D : va_G) (tys : List (ClassId × FieldType)) (A : Nat → Prop) (WX : va_W) (xp : String → Prop) : String → Unit → State → Prop := fun E _ t => xp E ∧ va_P D vwCl WX t.heap ∧ va_K D vwCl tys t ∧ va_D A WX
abbrev xX (D : va_G) (tys : List (ClassId × FieldType)) (A : Nat → Prop) (WX : va_W) (xp : String → Prop) : String → State → State → Prop := vx_X (fun _ : Unit => True) (qX D tys A WX xp) A
/-- what a throwing callee's premise is -/
abbrev pT (l : Launch) (nw : List (String × Nat × MethodName × String)) (WS : va_W) (sz : Nat) : State → Prop := fun U => nst nw U ∧ thr l (va_A WS sz) U U.heap
def gx_noX (X : gxT) : Prop := ∀ x ∈ X.2.2.2.2.2.2.2.2.2.1.exceptionTable.toList, False
def gx_QX (X : gxT) (ret : Option FieldType) (Qc : Array Value → State → Outcome → State → Prop) (XC : String → State → State → Prop) (mc ms : Nat) : Prop :=
  match X with
  | (_, _, _, _, s, _, args, below, meth, _, A, _, _, Q) => meth.sig.returnType = ret ∧ meth.locks = false ∧ Q = vx_MQ below Qc XC args s mc ms A
theorem gx_metX {l : Launch} {y : MethodName} {Ts ws' : List Cond} {rm : Room} {av : List Value} {D : va_G} {tys : List (ClassId × FieldType)} {WS : va_W} {XP : State → Prop} {sz : Nat} {Qc : Array Value → State → Outcome → State → Prop} {XC : String → State → State → Prop} {mc ms : Nat} {cc : ByteArray} {maxL : Nat} {ret : Option FieldType} (own : String) (ho : y.cls = own) (hy : plainName y.cls = true) (hw : Ts = Cond.code y cc maxL ret :: ws') (hlen : (lg_sl av).length ≤ maxL)
    (body : ∀ X : gxT, gx_l X = l → gx_D X = D → gx_A X = va_A WS sz → gx_C X cc own Ts tys maxL rm → gx_QX X ret Qc XC mc ms → gx_noX X → XP (gx_s X) → (gx_s X).heap.size = sz → (y.name = "<init>" → gx_init X) → gx X 0 0 WS 0 (lv_args 0 av) []) :
    vx_Met l y Ts rm (va_Pc av (pW D tys WS XP sz)) Qc XC mc ms (va_A WS sz) := by
  refine vx_ofW (cc := cc) (maxL := maxL) (ret := ret) hy hw ?_
  intro p e s m args below meth c s₁ B hml hno hv
  obtain ⟨rfl, hsz, hP, hK, hD0, hX⟩ := hv
  subst hsz
  have hown : s.vm.findClass own = some m.cls := by rw [← ho]; exact findClass_of_methodNamed B.named
  have hin : y.name = "<init>" → meth.name = "<init>" := fun h => by rw [← h]; exact (name_of_methodNamed B.named B.method).1
  have hl := lv_entry av (n := maxL) hlen
  rw [lg_entry_eq]
  exact body (p, l, e, (headSpec Ts rm).room, s, m, av.toArray, below, meth, c, va_A WS s.heap.size, D, maxL, vx_MQ below Qc XC av.toArray s mc ms (va_A WS s.heap.size)) rfl rfl rfl
    ⟨B.exec, B.bytes, hml, hown, atoms_spec (ws := Ts) B.pre, hK, fun q h => Or.inr h, rfl, rfl⟩ ⟨B.returns, B.notSynchronized, rfl⟩ hno hX rfl hin _ _ _ hP (hD0.self (sz := s.heap.size)) va_S.rf hl
/-- what a throwing callee's premise needs of the caller -/
def gx_XPs (X : gxT) (WC : va_W) (XP : Nat → State → Prop) : Prop := (∀ (sz : Nat) (a : Array Value) (U : State) (g : JFrame) (mk : MethodId), XP sz U → XP sz (U.calling g mk a)) ∧ ∀ (H : Heap) (locs : List Loc) (U : State), va_S (gx_A X) (gx_s X).heap H locs → (∀ q, va_A WC H.size q → gx_A X q) → U.heap = H → (gx_s X).WarmedH U.vm → XP H.size U
theorem gx_thr {X : gxT} {nw nw' : List (String × Nat × MethodName × String)} {WC : va_W} (h : nst nw (gx_s X) ∧ thr (gx_l X) (gx_A X) (gx_s X) (gx_s X).heap) (hs : ∀ q ∈ nw', q ∈ nw) : gx_XPs X WC (fun sz => pT (gx_l X) nw' WC sz) :=
  ⟨fun _ a _ g mk q => ⟨fun q9 h9 => q.1 q9 h9, q.2.blind a g mk⟩, fun _ _ _ hS hB hU hW => ⟨(gx_nst h.1 hs).2 _ _ _ hS hU hW, h.2.to hS hB hU hW⟩⟩
section GXT
variable {X : gxT} {cells slots : Nat} {ws : va_W} {pc : Nat} {lv : List (Nat × Value)} {st : List Value} {cc : ByteArray} {own : String} {Ts : List Cond} {tys : List (ClassId × FieldType)} {N : Nat} {Rm : Room}
theorem g_iretX {S : Type} {post : Int32 → S → Prop} {W1 : S → va_W} {XC : String → State → State → Prop} {mc ms : Nat} {v : Int32} (C : gx_C X cc own Ts tys N Rm) (hQ : gx_QX X (some .int) (va_Qi post (qW (gx_D X) tys (gx_A X) W1) (gx_A X)) XC mc ms) (hc : cells ≤ mc) (hs : slots ≤ ms) (hdg : decode cc pc = .ok (.ireturn, 1)) (u : S) (hu : post v u) (hw : ws = W1 u) : gx X cells slots ws pc lv [.int v] := by
  obtain ⟨p, l, e, R, s, m, args, below, meth, c, A, D, nL, Q⟩ := X
  obtain ⟨hr, hlocks, hQe⟩ := hQ
  have hQe : Q = vx_MQ below (va_Qi post (qW D tys A W1) A) XC args s mc ms A := hQe
  subst hQe
  subst hw
  refine g_widen hc hs ?_
  intro H locs ls hP hD hS hl
  exact vx_ret (W.iret (v := v) C.1 C.2.1 hr (fun t ht hW => ⟨⟨v, u, rfl, hu, by rw [ht]; exact hP, va_K.moved hW.alike C.2.2.2.2.2.1, hD⟩, hS.F ht⟩) hS.2.2 hdg)
theorem g_lretX {S : Type} {post : Int64 → S → Prop} {W1 : S → va_W} {XC : String → State → State → Prop} {mc ms : Nat} {v : Int64} (C : gx_C X cc own Ts tys N Rm) (hQ : gx_QX X (some .long) (va_Ql post (qW (gx_D X) tys (gx_A X) W1) (gx_A X)) XC mc ms) (hc : cells ≤ mc) (hs : slots ≤ ms) (hdg : decode cc pc = .ok (.lreturn, 1)) (u : S) (hu : post v u) (hw : ws = W1 u) : gx X cells slots ws pc lv [.long v] := by
  obtain ⟨p, l, e, R, s, m, args, below, meth, c, A, D, nL, Q⟩ := X
  obtain ⟨hr, hlocks, hQe⟩ := hQ
  have hQe : Q = vx_MQ below (va_Ql post (qW D tys A W1) A) XC args s mc ms A := hQe
  subst hQe
  subst hw
  refine g_widen hc hs ?_
  intro H locs ls hP hD hS hl
  exact vx_ret (W.lret (v := v) C.1 C.2.1 hr (fun t ht hW => ⟨⟨v, u, rfl, hu, by rw [ht]; exact hP, va_K.moved hW.alike C.2.2.2.2.2.1, hD⟩, hS.F ht⟩) hS.2.2 hdg)
theorem g_zretX {S : Type} {post : Int32 → S → Prop} {W1 : S → va_W} {XC : String → State → State → Prop} {mc ms : Nat} {v : Int32} (C : gx_C X cc own Ts tys N Rm) (hQ : gx_QX X (some .boolean) (va_Qi post (qW (gx_D X) tys (gx_A X) W1) (gx_A X)) XC mc ms) (hc : cells ≤ mc) (hs : slots ≤ ms) (hdg : decode cc pc = .ok (.ireturn, 1)) (hn : narrow .boolean (.int v) = .int v) (u : S) (hu : post v u) (hw : ws = W1 u) : gx X cells slots ws pc lv [.int v] := by
  obtain ⟨p, l, e, R, s, m, args, below, meth, c, A, D, nL, Q⟩ := X
  obtain ⟨hr, hlocks, hQe⟩ := hQ
  have hQe : Q = vx_MQ below (va_Qi post (qW D tys A W1) A) XC args s mc ms A := hQe
  subst hQe
  subst hw
  refine g_widen hc hs ?_
  intro H locs ls hP hD hS hl
  exact vx_ret (W.zret (v := v) C.1 C.2.1 hr hn (fun t ht hW => ⟨⟨v, u, rfl, hu, by rw [ht]; exact hP, va_K.moved hW.alike C.2.2.2.2.2.1, hD⟩, hS.F ht⟩) hS.2.2 hdg)
theorem g_vretX {S : Type} {post : S → Prop} {W1 : S → va_W} {XC : String → State → State → Prop} {mc ms : Nat} (C : gx_C X cc own Ts tys N Rm) (hQ : gx_QX X none (va_Qv post (qW (gx_D X) tys (gx_A X) W1) (gx_A X)) XC mc ms) (hc : cells ≤ mc) (hs : slots ≤ ms) (hdg : decode cc pc = .ok (.return_, 1)) (u : S) (hu : post u) (hw : ws = W1 u) : gx X cells slots ws pc lv [] := by
  obtain ⟨p, l, e, R, s, m, args, below, meth, c, A, D, nL, Q⟩ := X
  obtain ⟨hr, hlocks, hQe⟩ := hQ
  have hQe : Q = vx_MQ below (va_Qv post (qW D tys A W1) A) XC args s mc ms A := hQe
  subst hQe
  subst hw
  refine g_widen hc hs ?_
  intro H locs ls hP hD hS hl
  exact vx_ret (W.vret C.1 C.2.1 hr (fun t ht hW => ⟨⟨u, rfl, hu, by rw [ht]; exact hP, va_K.moved hW.alike C.2.2.2.2.2.1, hD⟩, hS.F ht⟩) hS.2.2 hdg)
/-- throw new E("text"): the world is as it is -/
theorem g_throwS {ret : Option FieldType} {Qc : Array Value → State → Outcome → State → Prop} {WX : va_W} {xp : String → Prop} {mc ms : Nat} {cls text : String} {ik is ic : Nat} (C : gx_C X cc own Ts tys N Rm) (hQ : gx_QX X ret Qc (xX (gx_D X) tys (gx_A X) WX xp) mc ms) (hno : gx_noX X) (hT : thr (gx_l X) (gx_A X) (gx_s X) (gx_s X).heap)
    (hcls : Bundle.fit cls = true) (hk : Cond.classLink own ik cls ∈ Ts) (hini : Cond.initialized cls ∈ Ts) (hstr : ∃ sa, vk_R own is text sa (gx_s X)) (hat : ∀ w ∈ (vx_atS own ic cls xNm).filter goodWord, w ∈ Ts) (hbad : ∀ w ∈ (vx_atS own ic cls xNm).filter (fun w => !goodWord w), w ∈ thW) (hot : ∀ w ∈ Cond.classLink own ik cls :: Cond.initialized cls :: vx_atS own ic cls xNm, vx_ot w = true)
    (d0 : decode cc pc = .ok (.new ik, 3)) (d3 : decode cc (pc + 3) = .ok (.dup, 1)) (d4 : decode cc (pc + 4) = .ok (.ldc is, 2)) (d6 : decode cc (pc + 6) = .ok (.invokespecial ic, 3)) (d9 : decode cc (pc + 9) = .ok (.athrow, 1))
    (hRf : 5 < Rm.frames) (hRl : (st.map fun v => v.category).sum + 82 ≤ Rm.locals) (hRc : cells + 1 ≤ Rm.cells) (hRs : slots + 6 ≤ Rm.slots) (hc : cells + 1 ≤ mc) (hs : slots + 6 ≤ ms) (hw : ws = WX) (hxp : xp cls) : gx X cells slots ws pc lv st := by
  obtain ⟨p, l, e, R, s, m, args, below, meth, c, A, D, nL, Q⟩ := X
  subst hw
  have hRm : R = Rm := C.2.2.2.2.2.2.2.2
  subst hRm
  obtain ⟨hr, hlocks, hQe⟩ := hQ
  have hQe : Q = vx_MQ below Qc (xX D tys A ws xp) args s mc ms A := hQe
  subst hQe
  obtain ⟨sa, hsa⟩ := hstr
  intro H locs ls hP hD hS hl
  refine vx_throwS (names := xNm) C.1 C.2.1 hT.1 C.2.2.2.1 hcls (by decide +kernel) (C.2.2.2.2.1 _ hk) (C.2.2.2.2.1 _ hini) hsa
    (vx_hat (fun w h => C.2.2.2.2.1 w (hat w h)) hbad (fun w h => va_Nw.use (thW_on w h) (hT.2.2.2.2.2.2 w h))) hot hT.2.1 hT.2.2.1 hS (hl.1.trans C.2.2.1.symm) d0 d3 d4 d6 d9 (fun x hx => (hno x hx).elim) hRf hRl hRc hRs hlocks ?_ hS.2.2 hc hs
  intro t hvm hz hk9
  refine ⟨(), trivial, ⟨hxp, ?_, va_K.moved hvm C.2.2.2.2.2.1, hD⟩, ?_⟩
  · exact hP.kept (fun k q hq => hk9 q.1 ((hP k q hq).lt))
  · exact ⟨Nat.le_trans hS.1 hz, fun q h1 h2 => (hk9 q (Nat.lt_of_lt_of_le h1 hS.1)).trans (hS.2.1 q h1 h2)⟩
/-- a call that returns nothing or throws; what is thrown goes on to the caller -/
theorem g_callVvX {S : Type} (C : gx_C X cc own Ts tys N Rm) {y : MethodName} {wsY wsY' : List Cond} {rm : Room} {As rest : List Value} {WC : va_W} {W1 : S → va_W} {XP : Nat → State → Prop} {post : S → Prop} {xpc : String → Prop} {mc ms index maxL : Nat} {bytes : ByteArray} {b : Nat} {Cn : String} {Tn : u_T} {Nn ci q0 : Nat} {fs : List Value} {retY : Option FieldType} {ret : Option FieldType} {Qc : Array Value → State → Outcome → State → Prop} {WX : va_W} {xp : String → Prop} {mcX msX : Nat} (hQ : gx_QX X ret Qc (xX (gx_D X) tys (gx_A X) WX xp) mcX msX) (hno : gx_noX X)
    (hM : ∀ sz, vx_Met (gx_l X) y wsY rm (va_Pc (.ref b :: As) (pW (gx_D X) tys WC (XP sz) sz)) (va_Qv post (qW (gx_D X) tys (va_A WC sz) W1) (va_A WC sz)) (xX (gx_D X) tys (va_A WC sz) WC xpc) mc ms (va_A WC sz)) (hXP : gx_XPs X WC XP)
    (n : Nat) (hg : GoodIn Ts (wsV own index Cn y wsY)) (hw : wsY = Cond.code y bytes maxL retY :: wsY') (hrc : rm.cells = mc) (hrs : rm.slots = ms) (hd : y.cls = Cn ∧ y.cls ≠ "java/lang/invoke/MethodHandle" ∧ y.cls ≠ "java/lang/invoke/VarHandle" ∧ (parseMethodDescriptor y.desc).map (fun d => d.parameters.length) = some n) (hR : rm.frames + 1 ≤ Rm.frames ∧ 8 + (maxL + 11) + rm.locals ≤ Rm.locals)
    (hci : vwCl[ci]? = some (Cn, Tn, Nn)) (hq0 : WC[q0]? = some (b, .inr (ci, fs))) (isC isR perm : List Nat) {wr : va_W} {ws' : S → va_W} (hC : isC.map (fun i => ws[i]?) = WC.map some) (hcn : va_nd isC = true) (hRr : isR.map (fun i => ws[i]?) = wr.map some) (hnd : va_nd isR = true) (hdis : ∀ i ∈ isR, i ∉ isC) (hperm : ∀ u, perm.map (fun i => (wr ++ W1 u)[i]?) = (ws' u).map some) (hpn : va_nd perm = true) (hpx : perm.map (fun i => (wr ++ WC)[i]?) = WX.map some)
    (hn : As.length = n) (hst : st = As.reverse ++ .ref b :: rest) (hW : (rest.map fun v => v.category).sum ≤ 8) (hdg : decode cc pc = .ok (.invokevirtual index, 3)) (hf : cells + mc ≤ Rm.cells ∧ slots + ms ≤ Rm.slots) (hl9 : cells + mc ≤ mcX ∧ slots + ms ≤ msX) (pc' : Nat) (hp : pc + 3 = pc') (hxp : ∀ E, xpc E → xp E)
    (k : ∀ u, post u → gx X (cells + mc) (slots + ms) (ws' u) pc' lv rest) : gx X cells slots ws pc lv st := by
  obtain ⟨p, l, e, R, s, m, args, below, meth, c, A, D, nL, Q⟩ := X
  subst hp
  subst hst
  have hRm : R = Rm := C.2.2.2.2.2.2.2.2
  subst hRm
  obtain ⟨hr, hlocks, hQe⟩ := hQ
  have hQe : Q = vx_MQ below Qc (xX D tys A WX xp) args s mcX msX A := hQe
  subst hQe
  intro H locs ls hP hD hS hl
  have hPc := hP.sub (ws' := WC) isC (fm_of_map hC)
  have hDc := hD.sub (ws' := WC) isC hcn hC
  have hFc := va_free (wc := WC) hD hS C.2.2.2.2.2.2.1 isC hC
  refine vx_callv (vx_runV (As := As) (rest := rest) ⟨C.1, C.2.1, C.2.2.1, C.2.2.2.1, C.2.2.2.2.1⟩ (hM H.size) (cwV n C.2.2.2.2.1 hg hw hrc hrs hd hR) ⟨fun a U g mk q => by obtain ⟨e0, q0, qP, qK, qD, qX⟩ := q; exact ⟨e0, q0, qP, va_K.moved (u := U) (U := U.calling g mk a) (Vm.Alike.refl U.vm) qK, qD, hXP.1 _ a U g mk qX⟩, va_recv C.2.2.2.2.2.1 hPc hci hq0, fun U hU hW => ⟨rfl, by rw [hU], by rw [hU]; exact hPc, va_K.moved hW.alike C.2.2.2.2.2.1, hDc.weaken (fun _ _ _ _ => trivial), hXP.2 H locs U hS hFc hU hW⟩⟩ rfl hn hl.1 rfl (lv_room hW) hdg hf) hS (fun q _ h => hFc q h) hFc (fun q _ h => hFc q h) (fun E ce q9 u t H1 locs1 ht hvm _ hB hz1 hk1 hS hcell hcv hcl => ?_) (fun u t H1 locs1 ht hvm hw9 hB hz1 hk1 hS => ?_)
  · obtain ⟨hE, hP1, hK1, hD1⟩ := hB
    rw [ht] at hP1
    obtain ⟨hP', hD'⟩ := va_join hP hD isC isR hC hRr hnd hdis hk1 hFc hP1 hD1
    exact vx_out (fun x hx => (hno x hx).elim) hlocks hcell hcv hcl (fun t' ht' hvm' => ⟨(), trivial, ⟨hxp E hE, by rw [ht']; exact hP'.sub perm (fm_of_map hpx), va_K.moved hvm' C.2.2.2.2.2.1, hD'.sub perm hpn hpx⟩, hS.F ht'⟩) hS.2.2 hl9.1 hl9.2
  · obtain ⟨hP1, hK1, hD1⟩ := hB
    rw [ht] at hP1
    obtain ⟨hP', hD'⟩ := va_join hP hD isC isR hC hRr hnd hdis hk1 hFc hP1 hD1
    exact k u hw9 H1 locs1 ls (hP'.sub perm (fm_of_map (hperm u))) (hD'.sub perm hpn (hperm u)) hS hl
/-- a call that returns nothing or throws; what is thrown goes on to the caller -/
theorem g_callSvX {S : Type} (C : gx_C X cc own Ts tys N Rm) {y : MethodName} {wsY wsY' : List Cond} {rm : Room} {As rest : List Value} {WC : va_W} {W1 : S → va_W} {XP : Nat → State → Prop} {post : S → Prop} {xpc : String → Prop} {mc ms index maxL : Nat} {bytes : ByteArray} {retY : Option FieldType} {ret : Option FieldType} {Qc : Array Value → State → Outcome → State → Prop} {WX : va_W} {xp : String → Prop} {mcX msX : Nat} (hQ : gx_QX X ret Qc (xX (gx_D X) tys (gx_A X) WX xp) mcX msX) (hno : gx_noX X)
    (hM : ∀ sz, vx_Met (gx_l X) y wsY rm (va_Pc As (pW (gx_D X) tys WC (XP sz) sz)) (va_Qv post (qW (gx_D X) tys (va_A WC sz) W1) (va_A WC sz)) (xX (gx_D X) tys (va_A WC sz) WC xpc) mc ms (va_A WC sz)) (hXP : gx_XPs X WC XP)
    (n : Nat) (hg : GoodIn Ts (va_wsS own index y wsY)) (hw : wsY = Cond.code y bytes maxL retY :: wsY') (hrc : rm.cells = mc) (hrs : rm.slots = ms) (hd : y.cls ≠ "java/lang/invoke/MethodHandle" ∧ y.cls ≠ "java/lang/invoke/VarHandle" ∧ (parseMethodDescriptor y.desc).map (fun d => d.parameters.length) = some n) (hR : rm.frames + 1 ≤ Rm.frames ∧ 8 + (maxL + 11) + rm.locals ≤ Rm.locals)
    (isC isR perm : List Nat) {wr : va_W} {ws' : S → va_W} (hC : isC.map (fun i => ws[i]?) = WC.map some) (hcn : va_nd isC = true) (hRr : isR.map (fun i => ws[i]?) = wr.map some) (hnd : va_nd isR = true) (hdis : ∀ i ∈ isR, i ∉ isC) (hperm : ∀ u, perm.map (fun i => (wr ++ W1 u)[i]?) = (ws' u).map some) (hpn : va_nd perm = true) (hpx : perm.map (fun i => (wr ++ WC)[i]?) = WX.map some)
    (hn : As.length = n) (hst : st = As.reverse ++ rest) (hW : (rest.map fun v => v.category).sum ≤ 8) (hdg : decode cc pc = .ok (.invokestatic index, 3)) (hf : cells + mc ≤ Rm.cells ∧ slots + ms ≤ Rm.slots) (hl9 : cells + mc ≤ mcX ∧ slots + ms ≤ msX) (pc' : Nat) (hp : pc + 3 = pc') (hxp : ∀ E, xpc E → xp E)
    (k : ∀ u, post u → gx X (cells + mc) (slots + ms) (ws' u) pc' lv rest) : gx X cells slots ws pc lv st := by
  obtain ⟨p, l, e, R, s, m, args, below, meth, c, A, D, nL, Q⟩ := X
  subst hp
  subst hst
  have hRm : R = Rm := C.2.2.2.2.2.2.2.2
  subst hRm
  obtain ⟨hr, hlocks, hQe⟩ := hQ
  have hQe : Q = vx_MQ below Qc (xX D tys A WX xp) args s mcX msX A := hQe
  subst hQe
  intro H locs ls hP hD hS hl
  have hPc := hP.sub (ws' := WC) isC (fm_of_map hC)
  have hDc := hD.sub (ws' := WC) isC hcn hC
  have hFc := va_free (wc := WC) hD hS C.2.2.2.2.2.2.1 isC hC
  refine vx_callv (vx_runS (As := As) (rest := rest) ⟨C.1, C.2.1, C.2.2.1, C.2.2.2.1, C.2.2.2.2.1⟩ (hM H.size) (va_cwS n C.2.2.2.2.1 hg hw hrc hrs hd hR) ⟨fun a U g mk q => by obtain ⟨e0, q0, qP, qK, qD, qX⟩ := q; exact ⟨e0, q0, qP, va_K.moved (u := U) (U := U.calling g mk a) (Vm.Alike.refl U.vm) qK, qD, hXP.1 _ a U g mk qX⟩, fun U hU hW => ⟨rfl, by rw [hU], by rw [hU]; exact hPc, va_K.moved hW.alike C.2.2.2.2.2.1, hDc.weaken (fun _ _ _ _ => trivial), hXP.2 H locs U hS hFc hU hW⟩⟩ rfl hn hl.1 rfl (lv_room hW) hdg hf) hS (fun q _ h => hFc q h) hFc (fun q _ h => hFc q h) (fun E ce q9 u t H1 locs1 ht hvm _ hB hz1 hk1 hS hcell hcv hcl => ?_) (fun u t H1 locs1 ht hvm hw9 hB hz1 hk1 hS => ?_)
  · obtain ⟨hE, hP1, hK1, hD1⟩ := hB
    rw [ht] at hP1
    obtain ⟨hP', hD'⟩ := va_join hP hD isC isR hC hRr hnd hdis hk1 hFc hP1 hD1
    exact vx_out (fun x hx => (hno x hx).elim) hlocks hcell hcv hcl (fun t' ht' hvm' => ⟨(), trivial, ⟨hxp E hE, by rw [ht']; exact hP'.sub perm (fm_of_map hpx), va_K.moved hvm' C.2.2.2.2.2.1, hD'.sub perm hpn hpx⟩, hS.F ht'⟩) hS.2.2 hl9.1 hl9.2
  · obtain ⟨hP1, hK1, hD1⟩ := hB
    rw [ht] at hP1
    obtain ⟨hP', hD'⟩ := va_join hP hD isC isR hC hRr hnd hdis hk1 hFc hP1 hD1
    exact k u hw9 H1 locs1 ls (hP'.sub perm (fm_of_map (hperm u))) (hD'.sub perm hpn (hperm u)) hS hl
end GXT
