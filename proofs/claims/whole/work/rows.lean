section
/-- a private method of a class that the tables say can be made, by its rows of tables_1 -/
def lw_okq (q : MethodName × Nat) : Prop := (q.1.cls ≠ "java/lang/invoke/MethodHandle" ∧ q.1.cls ≠ "java/lang/invoke/VarHandle") ∧ Cond.instantiable q.1.cls q.2 ∈ tables_1 ∧ Cond.privateMethod q.1 ∈ tables_1 ∧ Cond.instanceMethod q.1 ∈ tables_1
theorem lw_p0 : lw_okq (⟨"HarnessRows$Trees", "setWay", "(IIJ)V"⟩, 7) := ⟨⟨by decide +kernel, by decide +kernel⟩, List.mem_of_getElem? (i := 36) (by decide +kernel), List.mem_of_getElem? (i := 243) (by decide +kernel), List.mem_of_getElem? (i := 244) (by decide +kernel)⟩
theorem lw_p1 : lw_okq (⟨"java/lang/Throwable", "fillInStackTrace", "(I)Ljava/lang/Throwable;"⟩, 6) := ⟨⟨by decide +kernel, by decide +kernel⟩, List.mem_of_getElem? (i := 306) (by decide +kernel), List.mem_of_getElem? (i := 304) (by decide +kernel), List.mem_of_getElem? (i := 305) (by decide +kernel)⟩
theorem lw_p2 : lw_okq (⟨"HarnessRows$Trees", "joinTrees", "(IIJ)V"⟩, 7) := ⟨⟨by decide +kernel, by decide +kernel⟩, List.mem_of_getElem? (i := 36) (by decide +kernel), List.mem_of_getElem? (i := 375) (by decide +kernel), List.mem_of_getElem? (i := 376) (by decide +kernel)⟩
theorem lw_p3 : lw_okq (⟨"HarnessRows$Trees", "treeOf", "(I)I"⟩, 7) := ⟨⟨by decide +kernel, by decide +kernel⟩, List.mem_of_getElem? (i := 36) (by decide +kernel), List.mem_of_getElem? (i := 379) (by decide +kernel), List.mem_of_getElem? (i := 380) (by decide +kernel)⟩
theorem lw_p4 : lw_okq (⟨"HarnessRows", "checkCavity", "(II)V"⟩, 9) := ⟨⟨by decide +kernel, by decide +kernel⟩, List.mem_of_getElem? (i := 28) (by decide +kernel), List.mem_of_getElem? (i := 393) (by decide +kernel), List.mem_of_getElem? (i := 394) (by decide +kernel)⟩
theorem lw_p5 : lw_okq (⟨"HarnessRows$Wires", "freeColour", "(II)I"⟩, 6) := ⟨⟨by decide +kernel, by decide +kernel⟩, List.mem_of_getElem? (i := 66) (by decide +kernel), List.mem_of_getElem? (i := 415) (by decide +kernel), List.mem_of_getElem? (i := 416) (by decide +kernel)⟩
theorem lw_p6 : lw_okq (⟨"HarnessRows$Wires", "endsAt", "(II)Z"⟩, 6) := ⟨⟨by decide +kernel, by decide +kernel⟩, List.mem_of_getElem? (i := 66) (by decide +kernel), List.mem_of_getElem? (i := 419) (by decide +kernel), List.mem_of_getElem? (i := 420) (by decide +kernel)⟩
theorem lw_p7 : lw_okq (⟨"HarnessRows", "cutLength", "(I)J"⟩, 9) := ⟨⟨by decide +kernel, by decide +kernel⟩, List.mem_of_getElem? (i := 28) (by decide +kernel), List.mem_of_getElem? (i := 448) (by decide +kernel), List.mem_of_getElem? (i := 449) (by decide +kernel)⟩
theorem lw_p8 : lw_okq (⟨"HarnessRows$Table", "willDo", "(IJJJ)Z"⟩, 3) := ⟨⟨by decide +kernel, by decide +kernel⟩, List.mem_of_getElem? (i := 91) (by decide +kernel), List.mem_of_getElem? (i := 476) (by decide +kernel), List.mem_of_getElem? (i := 477) (by decide +kernel)⟩
theorem lw_p9 : lw_okq (⟨"HarnessRows$Reels", "packOnFewest", "()I"⟩, 8) := ⟨⟨by decide +kernel, by decide +kernel⟩, List.mem_of_getElem? (i := 107) (by decide +kernel), List.mem_of_getElem? (i := 530) (by decide +kernel), List.mem_of_getElem? (i := 531) (by decide +kernel)⟩
theorem lw_p10 : lw_okq (⟨"HarnessRows$Reels", "placeFrom", "(II)V"⟩, 8) := ⟨⟨by decide +kernel, by decide +kernel⟩, List.mem_of_getElem? (i := 107) (by decide +kernel), List.mem_of_getElem? (i := 534) (by decide +kernel), List.mem_of_getElem? (i := 535) (by decide +kernel)⟩
theorem lw_p11 : lw_okq (⟨"HarnessRows$Reels", "keepTrial", "(I)V"⟩, 8) := ⟨⟨by decide +kernel, by decide +kernel⟩, List.mem_of_getElem? (i := 107) (by decide +kernel), List.mem_of_getElem? (i := 538) (by decide +kernel), List.mem_of_getElem? (i := 539) (by decide +kernel)⟩
theorem lw_p12 : lw_okq (⟨"HarnessRows$Reels", "placeOn", "(III)V"⟩, 8) := ⟨⟨by decide +kernel, by decide +kernel⟩, List.mem_of_getElem? (i := 107) (by decide +kernel), List.mem_of_getElem? (i := 542) (by decide +kernel), List.mem_of_getElem? (i := 543) (by decide +kernel)⟩
theorem lw_p13 : lw_okq (⟨"HarnessRows$Reels", "hasRoom", "(II)Z"⟩, 8) := ⟨⟨by decide +kernel, by decide +kernel⟩, List.mem_of_getElem? (i := 107) (by decide +kernel), List.mem_of_getElem? (i := 546) (by decide +kernel), List.mem_of_getElem? (i := 547) (by decide +kernel)⟩
theorem lw_p14 : lw_okq (⟨"HarnessRows$Reels", "packLongestFirst", "()I"⟩, 8) := ⟨⟨by decide +kernel, by decide +kernel⟩, List.mem_of_getElem? (i := 107) (by decide +kernel), List.mem_of_getElem? (i := 553) (by decide +kernel), List.mem_of_getElem? (i := 554) (by decide +kernel)⟩
theorem lw_p15 : lw_okq (⟨"HarnessRows$Reels", "longestLeft", "()I"⟩, 8) := ⟨⟨by decide +kernel, by decide +kernel⟩, List.mem_of_getElem? (i := 107) (by decide +kernel), List.mem_of_getElem? (i := 557) (by decide +kernel), List.mem_of_getElem? (i := 558) (by decide +kernel)⟩
def lw_privs_1 : List (MethodName × Nat) := [(⟨"HarnessRows$Trees", "setWay", "(IIJ)V"⟩, 7), (⟨"java/lang/Throwable", "fillInStackTrace", "(I)Ljava/lang/Throwable;"⟩, 6), (⟨"HarnessRows$Trees", "joinTrees", "(IIJ)V"⟩, 7), (⟨"HarnessRows$Trees", "treeOf", "(I)I"⟩, 7), (⟨"HarnessRows", "checkCavity", "(II)V"⟩, 9), (⟨"HarnessRows$Wires", "freeColour", "(II)I"⟩, 6), (⟨"HarnessRows$Wires", "endsAt", "(II)Z"⟩, 6), (⟨"HarnessRows", "cutLength", "(I)J"⟩, 9), (⟨"HarnessRows$Table", "willDo", "(IJJJ)Z"⟩, 3), (⟨"HarnessRows$Reels", "packOnFewest", "()I"⟩, 8), (⟨"HarnessRows$Reels", "placeFrom", "(II)V"⟩, 8), (⟨"HarnessRows$Reels", "keepTrial", "(I)V"⟩, 8), (⟨"HarnessRows$Reels", "placeOn", "(III)V"⟩, 8), (⟨"HarnessRows$Reels", "hasRoom", "(II)Z"⟩, 8), (⟨"HarnessRows$Reels", "packLongestFirst", "()I"⟩, 8), (⟨"HarnessRows$Reels", "longestLeft", "()I"⟩, 8)]
theorem lw_r1 : ∀ q ∈ lw_privs_1, lw_okq q := List.forall_mem_cons.mpr ⟨lw_p0, List.forall_mem_cons.mpr ⟨lw_p1, List.forall_mem_cons.mpr ⟨lw_p2, List.forall_mem_cons.mpr ⟨lw_p3, List.forall_mem_cons.mpr ⟨lw_p4, List.forall_mem_cons.mpr ⟨lw_p5, List.forall_mem_cons.mpr ⟨lw_p6, List.forall_mem_cons.mpr ⟨lw_p7, List.forall_mem_cons.mpr ⟨lw_p8, List.forall_mem_cons.mpr ⟨lw_p9, List.forall_mem_cons.mpr ⟨lw_p10, List.forall_mem_cons.mpr ⟨lw_p11, List.forall_mem_cons.mpr ⟨lw_p12, List.forall_mem_cons.mpr ⟨lw_p13, List.forall_mem_cons.mpr ⟨lw_p14, List.forall_mem_cons.mpr ⟨lw_p15, fun _ h => absurd h List.not_mem_nil⟩⟩⟩⟩⟩⟩⟩⟩⟩⟩⟩⟩⟩⟩⟩⟩
theorem lw_p16 : lw_okq (⟨"HarnessRows$Reels", "lowestWithRoom", "(I)I"⟩, 8) := ⟨⟨by decide +kernel, by decide +kernel⟩, List.mem_of_getElem? (i := 107) (by decide +kernel), List.mem_of_getElem? (i := 561) (by decide +kernel), List.mem_of_getElem? (i := 562) (by decide +kernel)⟩
theorem lw_p17 : lw_okq (⟨"HarnessRows$Splices", "mergeGroups", "(II)V"⟩, 3) := ⟨⟨by decide +kernel, by decide +kernel⟩, List.mem_of_getElem? (i := 141) (by decide +kernel), List.mem_of_getElem? (i := 588) (by decide +kernel), List.mem_of_getElem? (i := 589) (by decide +kernel)⟩
theorem lw_p18 : lw_okq (⟨"HarnessRows$Variants", "isOn", "(II)Z"⟩, 3) := ⟨⟨by decide +kernel, by decide +kernel⟩, List.mem_of_getElem? (i := 157) (by decide +kernel), List.mem_of_getElem? (i := 630) (by decide +kernel), List.mem_of_getElem? (i := 631) (by decide +kernel)⟩
theorem lw_p19 : lw_okq (⟨"HarnessRows", "writeBundle", "(I)V"⟩, 9) := ⟨⟨by decide +kernel, by decide +kernel⟩, List.mem_of_getElem? (i := 28) (by decide +kernel), List.mem_of_getElem? (i := 661) (by decide +kernel), List.mem_of_getElem? (i := 662) (by decide +kernel)⟩
theorem lw_p20 : lw_okq (⟨"HarnessRows", "writeNode", "(I)V"⟩, 9) := ⟨⟨by decide +kernel, by decide +kernel⟩, List.mem_of_getElem? (i := 28) (by decide +kernel), List.mem_of_getElem? (i := 942) (by decide +kernel), List.mem_of_getElem? (i := 943) (by decide +kernel)⟩
theorem lw_p21 : lw_okq (⟨"HarnessRowsModel", "addNode", "(I)I"⟩, 34) := ⟨⟨by decide +kernel, by decide +kernel⟩, List.mem_of_getElem? (i := 988) (by decide +kernel), List.mem_of_getElem? (i := 1111) (by decide +kernel), List.mem_of_getElem? (i := 1112) (by decide +kernel)⟩
theorem lw_p22 : lw_okq (⟨"HarnessRowsModel", "isNode", "(I)Z"⟩, 34) := ⟨⟨by decide +kernel, by decide +kernel⟩, List.mem_of_getElem? (i := 988) (by decide +kernel), List.mem_of_getElem? (i := 1123) (by decide +kernel), List.mem_of_getElem? (i := 1124) (by decide +kernel)⟩
theorem lw_p23 : lw_okq (⟨"HarnessRowsModel", "isCavity", "(II)Z"⟩, 34) := ⟨⟨by decide +kernel, by decide +kernel⟩, List.mem_of_getElem? (i := 988) (by decide +kernel), List.mem_of_getElem? (i := 1132) (by decide +kernel), List.mem_of_getElem? (i := 1133) (by decide +kernel)⟩
theorem lw_p24 : lw_okq (⟨"HarnessRowsModel", "isWire", "(I)Z"⟩, 34) := ⟨⟨by decide +kernel, by decide +kernel⟩, List.mem_of_getElem? (i := 988) (by decide +kernel), List.mem_of_getElem? (i := 1141) (by decide +kernel), List.mem_of_getElem? (i := 1142) (by decide +kernel)⟩
theorem lw_p25 : lw_okq (⟨"HarnessRowsModel", "lengthOf", "(I)J"⟩, 34) := ⟨⟨by decide +kernel, by decide +kernel⟩, List.mem_of_getElem? (i := 988) (by decide +kernel), List.mem_of_getElem? (i := 1154) (by decide +kernel), List.mem_of_getElem? (i := 1155) (by decide +kernel)⟩
theorem lw_p26 : lw_okq (⟨"HarnessRowsModel", "collect", "()V"⟩, 34) := ⟨⟨by decide +kernel, by decide +kernel⟩, List.mem_of_getElem? (i := 988) (by decide +kernel), List.mem_of_getElem? (i := 1175) (by decide +kernel), List.mem_of_getElem? (i := 1176) (by decide +kernel)⟩
theorem lw_p27 : lw_okq (⟨"HarnessRowsModel", "packLongest", "(J)I"⟩, 34) := ⟨⟨by decide +kernel, by decide +kernel⟩, List.mem_of_getElem? (i := 988) (by decide +kernel), List.mem_of_getElem? (i := 1179) (by decide +kernel), List.mem_of_getElem? (i := 1180) (by decide +kernel)⟩
theorem lw_p28 : lw_okq (⟨"HarnessRowsModel", "packExactly", "(J)I"⟩, 34) := ⟨⟨by decide +kernel, by decide +kernel⟩, List.mem_of_getElem? (i := 988) (by decide +kernel), List.mem_of_getElem? (i := 1183) (by decide +kernel), List.mem_of_getElem? (i := 1184) (by decide +kernel)⟩
theorem lw_p29 : lw_okq (⟨"HarnessRowsModel", "fits", "(IJ)Z"⟩, 34) := ⟨⟨by decide +kernel, by decide +kernel⟩, List.mem_of_getElem? (i := 988) (by decide +kernel), List.mem_of_getElem? (i := 1187) (by decide +kernel), List.mem_of_getElem? (i := 1188) (by decide +kernel)⟩
theorem lw_p30 : lw_okq (⟨"HarnessRowsModel", "topOf", "(I)I"⟩, 34) := ⟨⟨by decide +kernel, by decide +kernel⟩, List.mem_of_getElem? (i := 988) (by decide +kernel), List.mem_of_getElem? (i := 1191) (by decide +kernel), List.mem_of_getElem? (i := 1192) (by decide +kernel)⟩
theorem lw_p31 : lw_okq (⟨"HarnessRowsModel", "meet", "(II)Z"⟩, 34) := ⟨⟨by decide +kernel, by decide +kernel⟩, List.mem_of_getElem? (i := 988) (by decide +kernel), List.mem_of_getElem? (i := 1211) (by decide +kernel), List.mem_of_getElem? (i := 1212) (by decide +kernel)⟩
def lw_privs_2 : List (MethodName × Nat) := [(⟨"HarnessRows$Reels", "lowestWithRoom", "(I)I"⟩, 8), (⟨"HarnessRows$Splices", "mergeGroups", "(II)V"⟩, 3), (⟨"HarnessRows$Variants", "isOn", "(II)Z"⟩, 3), (⟨"HarnessRows", "writeBundle", "(I)V"⟩, 9), (⟨"HarnessRows", "writeNode", "(I)V"⟩, 9), (⟨"HarnessRowsModel", "addNode", "(I)I"⟩, 34), (⟨"HarnessRowsModel", "isNode", "(I)Z"⟩, 34), (⟨"HarnessRowsModel", "isCavity", "(II)Z"⟩, 34), (⟨"HarnessRowsModel", "isWire", "(I)Z"⟩, 34), (⟨"HarnessRowsModel", "lengthOf", "(I)J"⟩, 34), (⟨"HarnessRowsModel", "collect", "()V"⟩, 34), (⟨"HarnessRowsModel", "packLongest", "(J)I"⟩, 34), (⟨"HarnessRowsModel", "packExactly", "(J)I"⟩, 34), (⟨"HarnessRowsModel", "fits", "(IJ)Z"⟩, 34), (⟨"HarnessRowsModel", "topOf", "(I)I"⟩, 34), (⟨"HarnessRowsModel", "meet", "(II)Z"⟩, 34)]
theorem lw_r2 : ∀ q ∈ lw_privs_2, lw_okq q := List.forall_mem_cons.mpr ⟨lw_p16, List.forall_mem_cons.mpr ⟨lw_p17, List.forall_mem_cons.mpr ⟨lw_p18, List.forall_mem_cons.mpr ⟨lw_p19, List.forall_mem_cons.mpr ⟨lw_p20, List.forall_mem_cons.mpr ⟨lw_p21, List.forall_mem_cons.mpr ⟨lw_p22, List.forall_mem_cons.mpr ⟨lw_p23, List.forall_mem_cons.mpr ⟨lw_p24, List.forall_mem_cons.mpr ⟨lw_p25, List.forall_mem_cons.mpr ⟨lw_p26, List.forall_mem_cons.mpr ⟨lw_p27, List.forall_mem_cons.mpr ⟨lw_p28, List.forall_mem_cons.mpr ⟨lw_p29, List.forall_mem_cons.mpr ⟨lw_p30, List.forall_mem_cons.mpr ⟨lw_p31, fun _ h => absurd h List.not_mem_nil⟩⟩⟩⟩⟩⟩⟩⟩⟩⟩⟩⟩⟩⟩⟩⟩
theorem lw_p32 : lw_okq (⟨"HarnessRowsModel", "isOn", "(II)Z"⟩, 34) := ⟨⟨by decide +kernel, by decide +kernel⟩, List.mem_of_getElem? (i := 988) (by decide +kernel), List.mem_of_getElem? (i := 1223) (by decide +kernel), List.mem_of_getElem? (i := 1224) (by decide +kernel)⟩
theorem lw_p33 : lw_okq (⟨"HarnessRowsModel", "sayNode", "(I)V"⟩, 34) := ⟨⟨by decide +kernel, by decide +kernel⟩, List.mem_of_getElem? (i := 988) (by decide +kernel), List.mem_of_getElem? (i := 1235) (by decide +kernel), List.mem_of_getElem? (i := 1236) (by decide +kernel)⟩
theorem lw_p34 : lw_okq (⟨"HarnessRowsModel", "say", "(I)V"⟩, 34) := ⟨⟨by decide +kernel, by decide +kernel⟩, List.mem_of_getElem? (i := 988) (by decide +kernel), List.mem_of_getElem? (i := 1239) (by decide +kernel), List.mem_of_getElem? (i := 1240) (by decide +kernel)⟩
theorem lw_p35 : lw_okq (⟨"HarnessRowsModel", "sayNumber", "(J)V"⟩, 34) := ⟨⟨by decide +kernel, by decide +kernel⟩, List.mem_of_getElem? (i := 988) (by decide +kernel), List.mem_of_getElem? (i := 1243) (by decide +kernel), List.mem_of_getElem? (i := 1244) (by decide +kernel)⟩
def lw_privs_3 : List (MethodName × Nat) := [(⟨"HarnessRowsModel", "isOn", "(II)Z"⟩, 34), (⟨"HarnessRowsModel", "sayNode", "(I)V"⟩, 34), (⟨"HarnessRowsModel", "say", "(I)V"⟩, 34), (⟨"HarnessRowsModel", "sayNumber", "(J)V"⟩, 34)]
theorem lw_r3 : ∀ q ∈ lw_privs_3, lw_okq q := List.forall_mem_cons.mpr ⟨lw_p32, List.forall_mem_cons.mpr ⟨lw_p33, List.forall_mem_cons.mpr ⟨lw_p34, List.forall_mem_cons.mpr ⟨lw_p35, fun _ h => absurd h List.not_mem_nil⟩⟩⟩⟩
def lw_privs : List (MethodName × Nat) := lw_privs_1 ++ (lw_privs_2 ++ (lw_privs_3))
def lw_tbl : List Cond := k2_sels lw_privs ++ tables_1
theorem lw_privs_ok : ∀ q ∈ lw_privs, lw_okq q := by
  show ∀ q ∈ lw_privs_1 ++ (lw_privs_2 ++ (lw_privs_3)), lw_okq q
  exact List.forall_mem_append.mpr ⟨lw_r1, List.forall_mem_append.mpr ⟨lw_r2, lw_r3⟩⟩
end
section
/-! ===== BEGIN words of one list among another's, by their places ===== -/
theorem goodIn_r {big : List Cond} (ws : List Cond) (ps : List Nat) (hp : ws = ps.filterMap (fun i => big[i]?)) (h : ws.all goodWord = true) : GoodIn big ws := by
  intro w hw
  have h1 := List.all_eq_true.mp h w hw
  rw [hp] at hw
  obtain ⟨i, -, hi⟩ := List.mem_filterMap.mp hw
  have hm : w ∈ big := by first | exact List.mem_of_getElem? hi | exact List.getElem?_mem hi
  exact ⟨hm, good_of_word h1⟩
theorem goodIn_app {big a b : List Cond} (ha : GoodIn big a) (hb : GoodIn big b) : GoodIn big (a ++ b) := fun w h => (List.mem_append.mp h).elim (ha w) (hb w)
theorem goodIn_ca {big a b : List Cond} {c : Cond} (ha : GoodIn big (c :: a)) (hb : GoodIn big b) : GoodIn big (c :: (a ++ b)) := fun w h => (List.mem_cons.mp h).elim (fun e => ha w (List.mem_cons.mpr (Or.inl e))) (fun h => (List.mem_append.mp h).elim (fun h => ha w (List.mem_cons.mpr (Or.inr h))) (hb w))
theorem goodIn_sub {big ws : List Cond} (hm : ∀ w ∈ ws, w ∈ big) (h : ws.all goodWord = true) : GoodIn big ws := fun w hw => ⟨hm w hw, good_of_word (List.all_eq_true.mp h w hw)⟩
/-! ===== END ===== -/

/-! ===== BEGIN exceptions that leave a method, and their catching by the caller (launches without stack traces) ===== -/
section VXA
/-! The laws vx_back, vx_callV, vx_callS, vx_callSW, vx_throw0, vx_throwS follow proofs of the library, with one case more: JvmDerived/Free/Laws.lean (Back.of_free), Shelf42/LK1.lean (callV, callS), Shelf/KitTraced.lean (throwNew0V, throwNewS). -/
/-- where a method has thrown q: the class by its name, the cell, what was written, the world -/
def vx_T (XC : String → State → State → Prop) (st : State) (q : Addr) (t : State) (mc ms : Nat) (free : Addr → Prop) : Prop :=
  ∃ (E : String) (ce : Cell) (L : List Loc), XC E st t ∧ t.heap[q]? = some ce ∧ ce.vm = .none ∧ st.vm.findClass E = some ce.cls ∧ st.WarmedH t.vm ∧ st.sameButNew ({ t with vm := st.vm } : State) L mc ms ∧ ∀ z ∈ L, free z.base
def vx_Q (Qc : Array Value → State → Outcome → State → Prop) (XC : String → State → State → Prop) (mc ms : Nat) (free : Addr → Prop) : Array Value → State → Outcome → State → Prop := fun a st o t =>
  (Qc a st o t ∧ ∃ L, FrameEnd st o t L mc ms ∧ ∀ q ∈ L, free q.base) ∨ ∃ q, o = .threw q ∧ vx_T XC st q t mc ms free
/-- a callee that returns or throws -/
def vx_Met (l : Launch) (y : MethodName) (ws : List Cond) (rm : Room) (Pc : Array Value → State → Prop) (Qc : Array Value → State → Outcome → State → Prop) (XC : String → State → State → Prop) (mc ms : Nat) (free : Addr → Prop) : Prop :=
  MetFree l y (headSpec ws rm) Pc (fun _ _ _ _ _ => True) (vx_Q Qc XC mc ms free)
def vx_Post (XC : String → State → State → Prop) (mc ms : Nat) (free : Addr → Prop) : Pt → Array Value → Addr → Pt → Prop := fun A a q B =>
  ∃ (g : JFrame) (mk : MethodId) (t : State) (L : List Loc) (E : String) (ce : Cell), B.U.heap = t.heap ∧ B.U.vm = t.vm ∧ XC E (A.U.calling g mk a) t ∧ t.heap[q]? = some ce ∧ ce.vm = .none ∧ A.U.vm.findClass E = some ce.cls ∧ B.locs = A.locs ++ L ∧ (∀ z ∈ L, free z.base) ∧ B.cells = A.cells + mc ∧ B.slots = A.slots + ms
def vx_Back (l : Launch) (R : Room) (p : Program) (e : Env) (below : List Frame) (s : State) (sargs : Array Value) (y : MethodName) (len W9 : Nat)
    (Pre : Pt → Array Value → Prop) (Post : Pt → Array Value → Option Value → Pt → Prop) (PostX : Pt → Array Value → Addr → Pt → Prop) : Prop :=
  ∀ (m : MethodId) (meth : Method) (c : Code) (A : Pt) (g : JFrame) (ig : Instr) (mk : MethodId) (a : Array Value),
    Stand p l e R s m sargs below meth c A.U A.locs A.cells A.slots → g.method = m → g.locals.size = c.maxLocals → decode c.code g.pc = .ok (ig, len) →
    2 * g.monitorRoom + (g.stack.map fun v => v.category).sum ≤ W9 → A.U.methodNamed? y = some mk → Pre A a →
    (∃ (v : Option Value) (B : Pt), Stand p l e R s m sargs below meth c B.U B.locs B.cells B.slots ∧ Post A a v B ∧
      Steps p.tables e below (doInvoke e (A.U.setTop g) [] mk a).1 (B.U.setTop { g with pc := g.pc + len, stack := v.toList ++ g.stack })) ∨
    (∃ (q : Addr) (B : Pt), Stand p l e R s m sargs below meth c B.U B.locs B.cells B.slots ∧ PostX A a q B ∧
      Steps p.tables e below (doInvoke e (A.U.setTop g) [] mk a).1 ((B.U.setTop g).pushFrame (.throwing q)))
section Payer
variable {l : Launch} {R : Room} {p : Program} {e : Env} {below : List Frame} {s : State} {sargs : Array Value} {y : MethodName} {len W9 : Nat}
theorem vx_back {ws : List Cond} {rm : Room} {Pc : Array Value → State → Prop} {Qc : Array Value → State → Outcome → State → Prop} {XC : String → State → State → Prop} {mc ms : Nat} {free : Addr → Prop} {bytes : ByteArray} {maxL : Nat} {ret : Option FieldType}
    (hM : vx_Met l y ws rm Pc Qc XC mc ms free) (hblind : FrameBlind Pc) (hrc : rm.cells = mc) (hrs : rm.slots = ms)
    (hframes : rm.frames + 1 ≤ R.frames) (hlocals : W9 + (maxL + 11) + rm.locals ≤ R.locals)
    (hws : ∀ w ∈ ws, ∀ a' U, s.WarmedH U.vm → w.before a' U = true) (hcode : Cond.code y bytes maxL ret ∈ ws) (hinit : ∀ a' U, s.WarmedH U.vm → (Cond.initialized y.cls).before a' U = true) :
    vx_Back l R p e below s sargs y len W9 (PreOf R mc ms Pc) (PostOf Qc mc ms free) (vx_Post XC mc ms free) := by
  intro m meth c A g ig mk a X hg hsize hdg hW hn hp
  have h1 : (headSpec ws rm).pre.before a A.U = true := atoms_intro fun w hw => hws w hw _ _ X.warmed
  have h2 : (Cond.code y bytes maxL ret).before a A.U = true := hws _ hcode _ _ X.warmed
  have h3 : (Cond.initialized y.cls).before a A.U = true := hinit _ _ X.warmed
  have h4 : A.cells + (headSpec ws rm).room.cells ≤ R.cells := by rw [show (headSpec ws rm).room.cells = mc from hrc]; exact hp.1
  have h5 : A.slots + (headSpec ws rm).room.slots ≤ R.slots := by rw [show (headSpec ws rm).room.slots = ms from hrs]; exact hp.2.1
  have hPc : Pc a (A.U.calling g mk a) := hblind _ _ _ _ hp.2.2
  obtain ⟨U, Ls, c0, s0⟩ := A
  dsimp only [Pt.U, Pt.locs, Pt.cells, Pt.slots] at h1 h2 h3 h4 h5 X hn hPc ⊢
  obtain ⟨methY, cY, hmY, hcY, -, hlY, -, -, -, -⟩ := Cond.code_spec hn h2
  obtain ⟨kY, hkY, -⟩ := className_of_methodNamed hn
  have hinitY : kY.init = .initialized := Cond.initialized_spec (findClass_of_methodNamed hn) hkY h3
  have h : At U g.method c below := by rw [hg]; exact X.here
  have hlocals9 : W9 + (maxL + 11) + (headSpec ws rm).room.locals ≤ R.locals := hlocals
  have happ : (headSpec ws rm).appliesLoose y e.platform (U.calling g mk a) = true :=
    Spec.appliesLoose_calling (g := g) h hdg hn hkY hinitY
      (X.room_calling (g := g) (R' := (headSpec ws rm).room) hsize hmY hcY hframes (by rw [hlY]; omega) h4 h5) h1
  obtain ⟨mid, hmid⟩ := h.above
  have hfr : (U.setTop g).frames = (.java g :: mid) ++ below := by rw [State.frames_setTop' g h.top, hmid]; rfl
  obtain ⟨o, s₂, hsteps, -, hend, hq⟩ := Steps.callFree hM p X.admits X.cas X.clock (acts := []) hfr happ hPc trivial
  have hq' : vx_Q Qc XC mc ms free a (U.calling g mk a) o s₂ := hq
  rw [State.frames_setTop' g h.top] at hend
  obtain ⟨g₀, hg0⟩ := Option.isSome_iff_exists.mp h.top
  obtain ⟨r, hr⟩ := State.topJava?_eq_some.mp hg0
  have hr' : (({ U with heap := s₂.heap, slotsUsed := s₂.slotsUsed } : State).setVm s₂.vm).frames = .java g₀ :: r := hr
  rcases hq' with ⟨hqc, L, hfe, hL⟩ | ⟨q, rfl, E, ce, L, hx, hce, hcv, hcl, hW₂, hsm, hL⟩
  · obtain ⟨⟨v, rfl⟩, hW₂, e2, q2, q3, q4, q5, q6⟩ := id hfe
    have e3 : s₂ = ({ (U.calling g mk a).setFrames s₂.frames with heap := s₂.heap, slotsUsed := s₂.slotsUsed } : State).setVm s₂.vm := by
      have : s₂ = ({ s₂ with vm := (U.calling g mk a).vm } : State).setVm s₂.vm := rfl
      rw [e2] at this
      exact this
    obtain ⟨c₂, i₂, len₂, hc₂, hd₂, hf₂⟩ := hend
    have hW' : U.WarmedH s₂.vm := hW₂
    have hcc : c₂ = c := by
      have h1 : s₂.code? g.method = U.code? g.method := by
        rw [State.code?_eq, State.code?_eq, hW'.alike.method?]
      exact Option.some.inj (hc₂.symm.trans (h1.trans h.code))
    subst hcc
    have hlen : len₂ = len := by rw [hdg] at hd₂; cases hd₂; rfl
    subst hlen
    have hs₂ : s₂ = (({ U with heap := s₂.heap, slotsUsed := s₂.slotsUsed } : State).setVm s₂.vm).setTop { g with pc := g.pc + len₂, stack := v.toList ++ g.stack } := by
      refine e3.trans ?_
      rw [hf₂, State.calling_eq h.top, State.setFrames_setFrames, State.setTop_of_frames _ hr', hr]
      rfl
    have hsame : U.sameButNew ({ U with heap := s₂.heap, slotsUsed := s₂.slotsUsed } : State) L mc ms := by
      refine ⟨?_, q2, q3, q4, q5, q6⟩
      obtain ⟨t, ht, -⟩ := State.frames_cons hr
      show ({ U with heap := s₂.heap, slotsUsed := s₂.slotsUsed } : State) = { U.setFrames U.frames with heap := s₂.heap, slotsUsed := s₂.slotsUsed }
      rw [State.setFrames_self ht]
    subst hg
    refine Or.inl ⟨v, ⟨(({ U with heap := s₂.heap, slotsUsed := s₂.slotsUsed } : State).setVm s₂.vm), Ls ++ L, c0 + mc, s0 + ms⟩,
      ⟨X.admits, X.cas, X.clock, X.frames, X.room, X.hears, X.method, X.code, (X.here.setHeapUsed s₂.heap s₂.slotsUsed).setVm hW'.alike, X.tail, State.WarmedH.trans X.warmed hW', X.limits, X.bytes, X.same.trans (hsame.setVm s.vm)⟩,
      ⟨g, mk, s₂, L, rfl, rfl, hqc, rfl, hL, rfl, rfl⟩, ?_⟩
    show Steps p.tables e below _ ((({ U with heap := s₂.heap, slotsUsed := s₂.slotsUsed } : State).setVm s₂.vm).setTop { g with pc := g.pc + len₂, stack := v.toList ++ g.stack })
    rw [← hs₂]
    exact hsteps
  · obtain ⟨e2, q2, q3, q4, q5, q6⟩ := id hsm
    have e3 : s₂ = ({ (U.calling g mk a).setFrames s₂.frames with heap := s₂.heap, slotsUsed := s₂.slotsUsed } : State).setVm s₂.vm := by
      have : s₂ = ({ s₂ with vm := (U.calling g mk a).vm } : State).setVm s₂.vm := rfl
      rw [e2] at this
      exact this
    have hf₂ : s₂.frames = .throwing q :: .java g :: U.frames.tail := hend
    have hW' : U.WarmedH s₂.vm := hW₂
    have hs₂ : s₂ = ((({ U with heap := s₂.heap, slotsUsed := s₂.slotsUsed } : State).setVm s₂.vm).setTop g).pushFrame (.throwing q) := by
      refine e3.trans ?_
      rw [hf₂, State.calling_eq h.top, State.setFrames_setFrames, State.pushFrame, State.frames_setTop _ hr', State.setTop_of_frames _ hr', State.setFrames_setFrames, hr]
      rfl
    have hsame : U.sameButNew ({ U with heap := s₂.heap, slotsUsed := s₂.slotsUsed } : State) L mc ms := by
      refine ⟨?_, q2, q3, q4, q5, q6⟩
      obtain ⟨t, ht, -⟩ := State.frames_cons hr
      show ({ U with heap := s₂.heap, slotsUsed := s₂.slotsUsed } : State) = { U.setFrames U.frames with heap := s₂.heap, slotsUsed := s₂.slotsUsed }
      rw [State.setFrames_self ht]
    subst hg
    refine Or.inr ⟨q, ⟨(({ U with heap := s₂.heap, slotsUsed := s₂.slotsUsed } : State).setVm s₂.vm), Ls ++ L, c0 + mc, s0 + ms⟩,
      ⟨X.admits, X.cas, X.clock, X.frames, X.room, X.hears, X.method, X.code, (X.here.setHeapUsed s₂.heap s₂.slotsUsed).setVm hW'.alike, X.tail, State.WarmedH.trans X.warmed hW', X.limits, X.bytes, X.same.trans (hsame.setVm s.vm)⟩,
      ⟨g, mk, s₂, L, E, ce, rfl, rfl, hx, hce, hcv, hcl, rfl, hL, rfl, rfl⟩, ?_⟩
    show Steps p.tables e below _ (((({ U with heap := s₂.heap, slotsUsed := s₂.slotsUsed } : State).setVm s₂.vm).setTop g).pushFrame (.throwing q))
    rw [← hs₂]
    exact hsteps
end Payer
section Calls
variable {p : Program} {l : Launch} {e : Env} {R : Room} {s : State} {m : MethodId} {args : Array Value} {below : List Frame} {meth : Method} {c : Code} {T : State} {locs : List Loc} {cells slots : Nat}
theorem vx_callV (X : Stand p l e R s m args below meth c T locs cells slots) (hexec : p.tables.exec = Jvm.exec) {own C : String} {index : Nat} {y : MethodName} {bytes : ByteArray} {maxL : Nat} {ret : Option FieldType}
    (hown : s.vm.findClass own = some m.cls) (hlink : (Cond.methodLink own index y).before args s = true) (hinst : (Cond.instanceMethod y).before args s = true) (hsel : (Cond.selects C y y).before args s = true)
    (hcode : (Cond.code y bytes maxL ret).before args s = true) (hy : y.cls ≠ "java/lang/invoke/MethodHandle" ∧ y.cls ≠ "java/lang/invoke/VarHandle")
    {W9 : Nat} {Pre : Pt → Array Value → Prop} {Post : Pt → Array Value → Option Value → Pt → Prop} {PostX : Pt → Array Value → Addr → Pt → Prop} (hK : vx_Back l R p e below s args y 3 W9 Pre Post PostX)
    {b : Addr} {cellB : Cell} (hcell : T.heap[b]? = some cellB) (hobj : cellB.vm.isStatics = false) (hcls : s.vm.findClass C = some cellB.cls)
    {g : JFrame} (hg : g.method = m) (hsize : g.locals.size = c.maxLocals) {argsL rest : List Value} (hlen : ∀ sig, parseMethodDescriptor y.desc = some sig → argsL.length = sig.parameters.length)
    (hstack : g.stack = argsL.reverse ++ .ref b :: rest) (hW : 2 * g.monitorRoom + (rest.map fun v => v.category).sum ≤ W9) (hdg : decode c.code g.pc = .ok (.invokevirtual index, 3))
    (hpre : ∀ vm₁, s.WarmedH vm₁ → Pre ⟨T.setVm vm₁, locs, cells, slots⟩ (Value.ref b :: argsL).toArray) :
    (∃ (v : Option Value) (vm₁ : Vm) (B : Pt), s.WarmedH vm₁ ∧ Stand p l e R s m args below meth c B.U B.locs B.cells B.slots ∧ Post ⟨T.setVm vm₁, locs, cells, slots⟩ (Value.ref b :: argsL).toArray v B ∧
      ∀ target, Steps p.tables e below (B.U.setTop { g with pc := g.pc + 3, stack := v.toList ++ rest }) target → Steps p.tables e below (T.setTop g) target) ∨
    (∃ (q : Addr) (vm₁ : Vm) (B : Pt), s.WarmedH vm₁ ∧ Stand p l e R s m args below meth c B.U B.locs B.cells B.slots ∧ PostX ⟨T.setVm vm₁, locs, cells, slots⟩ (Value.ref b :: argsL).toArray q B ∧
      Steps p.tables e below (T.setTop g) ((B.U.setTop { g with stack := rest }).pushFrame (.throwing q))) := by
  obtain ⟨mk, methM, hnamed, hmethM, hstM, habM⟩ := Cond.instanceMethod_spec hinst
  obtain ⟨methM', cM, hmethM', -, -, -, -, -, -, hsigM⟩ := Cond.code_spec hnamed hcode
  cases hmethM.symm.trans hmethM'
  obtain ⟨c2, r2, m2, q1, q2, q3, q4, kP, hkP, hkPi⟩ := Cond.selects_spec hsel
  cases hcls.symm.trans q1
  cases (State.methodFound?_of_named hnamed hy).symm.trans q2
  cases hnamed.symm.trans q3
  have hselP : selectMethod e.platform s.vm cellB.cls mk = .method mk := by rw [Launch.admits_selectMethod X.admits]; exact q4
  obtain ⟨vm₁, X₁, hstep₁⟩ := X.invokevirtual hexec hown hlink hnamed hmethM hstM hkP hkPi hy (a := b) (cell := cellB) hcell
    (fun z h => by rw [h] at hobj; cases hobj) hselP hmethM habM hkP hkPi (g := g) hg (argsL := argsL) (rest := rest) (hlen _ hsigM) hstack hdg
  rcases hK m meth c ⟨T.setVm vm₁, locs, cells, slots⟩ { g with stack := rest } (.invokevirtual index) mk (Value.ref b :: argsL).toArray X₁ hg hsize hdg hW (X₁.named hnamed) (hpre vm₁ X₁.warmed) with ⟨v, B, X', hpost, hsteps⟩ | ⟨q, B, X', hpost, hsteps⟩
  · exact Or.inl ⟨v, vm₁, B, X₁.warmed, X', hpost, fun target h => hstep₁ _ fun acts => by rw [doInvoke_state]; exact hsteps.trans h⟩
  · exact Or.inr ⟨q, vm₁, B, X₁.warmed, X', hpost, hstep₁ _ fun acts => by rw [doInvoke_state]; exact hsteps⟩
theorem vx_callS (X : Stand p l e R s m args below meth c T locs cells slots) (hexec : p.tables.exec = Jvm.exec) {own : String} {index : Nat} {y : MethodName} {bytes : ByteArray} {maxL : Nat} {ret : Option FieldType}
    (hown : s.vm.findClass own = some m.cls) (hlink : (Cond.methodLink own index y).before args s = true) (hstat : (Cond.static y).before args s = true) (hinit : (Cond.initialized y.cls).before args s = true)
    (hcode : (Cond.code y bytes maxL ret).before args s = true) (hy : y.cls ≠ "java/lang/invoke/MethodHandle" ∧ y.cls ≠ "java/lang/invoke/VarHandle")
    {W9 : Nat} {Pre : Pt → Array Value → Prop} {Post : Pt → Array Value → Option Value → Pt → Prop} {PostX : Pt → Array Value → Addr → Pt → Prop} (hK : vx_Back l R p e below s args y 3 W9 Pre Post PostX)
    {g : JFrame} (hg : g.method = m) (hsize : g.locals.size = c.maxLocals) {argsL rest : List Value} (hlen : ∀ sig, parseMethodDescriptor y.desc = some sig → argsL.length = sig.parameters.length)
    (hstack : g.stack = argsL.reverse ++ rest) (hW : 2 * g.monitorRoom + (rest.map fun v => v.category).sum ≤ W9) (hdg : decode c.code g.pc = .ok (.invokestatic index, 3))
    (hpre : ∀ vm₁, s.WarmedH vm₁ → Pre ⟨T.setVm vm₁, locs, cells, slots⟩ argsL.toArray) :
    (∃ (v : Option Value) (vm₁ : Vm) (B : Pt), s.WarmedH vm₁ ∧ Stand p l e R s m args below meth c B.U B.locs B.cells B.slots ∧ Post ⟨T.setVm vm₁, locs, cells, slots⟩ argsL.toArray v B ∧
      ∀ target, Steps p.tables e below (B.U.setTop { g with pc := g.pc + 3, stack := v.toList ++ rest }) target → Steps p.tables e below (T.setTop g) target) ∨
    (∃ (q : Addr) (vm₁ : Vm) (B : Pt), s.WarmedH vm₁ ∧ Stand p l e R s m args below meth c B.U B.locs B.cells B.slots ∧ PostX ⟨T.setVm vm₁, locs, cells, slots⟩ argsL.toArray q B ∧
      Steps p.tables e below (T.setTop g) ((B.U.setTop { g with stack := rest }).pushFrame (.throwing q))) := by
  obtain ⟨mk, hnamed⟩ := Cond.code_named hcode
  obtain ⟨methM, cM, hmethM, -, -, -, -, -, -, hsigM⟩ := Cond.code_spec hnamed hcode
  have hstatic : methM.isStatic = true := Cond.static_spec hnamed hmethM hstat
  obtain ⟨kP, hkP, -⟩ := className_of_methodNamed hnamed
  have hinitP : kP.init = .initialized := Cond.initialized_spec (findClass_of_methodNamed hnamed) hkP hinit
  obtain ⟨vm₁, X₁, hstep₁⟩ := X.invokestatic hexec hown hlink hnamed hmethM hstatic hkP hinitP hy (g := g) hg (argsL := argsL) (rest := rest) (hlen _ hsigM) hstack hdg
  rcases hK m meth c ⟨T.setVm vm₁, locs, cells, slots⟩ { g with stack := rest } (.invokestatic index) mk argsL.toArray X₁ hg hsize hdg hW (X₁.named hnamed) (hpre vm₁ X₁.warmed) with ⟨v, B, X', hpost, hsteps⟩ | ⟨q, B, X', hpost, hsteps⟩
  · exact Or.inl ⟨v, vm₁, B, X₁.warmed, X', hpost, fun target h => hstep₁ _ fun acts => by rw [doInvoke_state]; exact hsteps.trans h⟩
  · exact Or.inr ⟨q, vm₁, B, X₁.warmed, X', hpost, hstep₁ _ fun acts => by rw [doInvoke_state]; exact hsteps⟩
end Calls
theorem vx_cls {s : State} {T : State} {vm₁ : Vm} {E : String} {k : ClassId} (hW : s.WarmedH vm₁) (h : (T.setVm vm₁).vm.findClass E = some k) : s.vm.findClass E = some k := by
  have h1 : vm₁.findClass E = some k := h
  rw [hW.alike.findClass] at h1
  exact h1
/-- the method's frame g, with q thrown over it -/
def vx_W (p : Program) (l : Launch) (e : Env) (R : Room) (s : State) (m : MethodId) (args : Array Value) (below : List Frame) (meth : Method) (c : Code) (H : Heap) (locs : List Loc) (cells slots : Nat) (Q : State → Prop) (g : JFrame) (q : Addr) : Prop :=
  ∀ T : State, T.heap = H → Stand p l e R s m args below meth c T locs cells slots → ∃ t, Steps p.tables e below ((T.setTop g).pushFrame (.throwing q)) t ∧ Q t
def vx_Run (p : Program) (l : Launch) (e : Env) (R : Room) (s : State) (m : MethodId) (args : Array Value) (below : List Frame) (meth : Method) (c : Code) (H : Heap) (locs : List Loc) (cells slots mc ms : Nat) (g : JFrame) (rest : List Value) (Qa : State → Outcome → State → Prop) (XC : String → State → State → Prop) (free : Addr → Prop) : Prop :=
  ∀ T : State, T.heap = H → Stand p l e R s m args below meth c T locs cells slots →
    (∃ (v : Option Value) (st₀ t T' : State) (L : List Loc), st₀.heap = H ∧ Stand p l e R s m args below meth c T' (locs ++ L) (cells + mc) (slots + ms) ∧ (∀ q ∈ L, free q.base) ∧ T'.heap = t.heap ∧ T'.vm = t.vm ∧ Qa st₀ (.returned v) t ∧
      Goes p e below T g T' { g with pc := g.pc + 3, stack := v.toList ++ rest }) ∨
    (∃ (q : Addr) (st₀ t T' : State) (L : List Loc) (E : String) (ce : Cell), st₀.heap = H ∧ Stand p l e R s m args below meth c T' (locs ++ L) (cells + mc) (slots + ms) ∧ (∀ z ∈ L, free z.base) ∧ T'.heap = t.heap ∧ T'.vm = t.vm ∧ XC E st₀ t ∧ t.heap[q]? = some ce ∧ ce.vm = .none ∧ s.vm.findClass E = some ce.cls ∧
      Steps p.tables e below (T.setTop g) ((T'.setTop { g with stack := rest }).pushFrame (.throwing q)))
def vx_X {S : Type} (px : S → Prop) (B : String → S → State → Prop) (A : Nat → Prop) : String → State → State → Prop := fun E st t => ∃ u : S, px u ∧ B E u t ∧ va_F A st t
section Runs
variable {p : Program} {l : Launch} {e : Env} {R : Room} {s : State} {m : MethodId} {args : Array Value} {below : List Frame} {meth : Method} {c : Code} {H : Heap} {locs : List Loc} {cells slots : Nat}
variable {y : MethodName} {bytes cc : ByteArray} {maxL nL mc ms n index : Nat} {ret : Option FieldType} {ws : List Cond} {rm : Room} {Pc : Array Value → State → Prop} {Qc : Array Value → State → Outcome → State → Prop} {XC : String → State → State → Prop} {free : Addr → Prop} {Ts : List Cond} {own C : String} {b : Addr} {As rest : List Value} {g : JFrame}
theorem vx_callBack (cb : CallB R s args own index y bytes maxL ret ws rm mc ms n) (hM : vx_Met l y ws rm Pc Qc XC mc ms free) (hbl : FrameBlind Pc) : vx_Back l R p e below s args y 3 8 (PreOf R mc ms Pc) (PostOf Qc mc ms free) (vx_Post XC mc ms free) := by
  obtain ⟨hrc, hrs, hfr, hlo, hws, hcw, -, hini, -⟩ := cb
  exact vx_back (bytes := bytes) (maxL := maxL) (ret := ret) hM hbl hrc hrs hfr hlo hws hcw (fun a' U hW => word_at hW (Or.inl (by first | rfl | simp [Cond.onTables, Cond.keeps, Cond.steady])) hini)
theorem vx_runV (S : CallFix p m c cc nL s args Ts own) (hM : vx_Met l y ws rm Pc Qc XC mc ms free) (cw : CallW R s args own C index y bytes maxL ret ws rm mc ms n) (hp : PreV s H C b Pc As)
    (hg : g.method = m) (hn : As.length = n) (hsize : g.locals.size = nL) (hstack : g.stack = As.reverse ++ .ref b :: rest) (hW : 2 * g.monitorRoom + (rest.map fun v => v.category).sum ≤ 8) (hdg : decode cc g.pc = .ok (.invokevirtual index, 3)) (hf : cells + mc ≤ R.cells ∧ slots + ms ≤ R.slots) :
    vx_Run p l e R s m args below meth c H locs cells slots mc ms g rest (Qc (Value.ref b :: As).toArray) XC free := by
  have hK : vx_Back l R p e below s args y 3 8 (PreOf R mc ms Pc) (PostOf Qc mc ms free) (vx_Post XC mc ms free) := vx_callBack cw.1 hM hp.1
  obtain ⟨⟨-, -, -, -, -, -, hcode, -, hy, hlen, hl⟩, hin, hse⟩ := cw
  obtain ⟨hx, hb, hml, ho, -⟩ := S
  obtain ⟨-, ⟨cellB, hcB, hoB, hclB⟩, hPc⟩ := hp
  intro T hT X
  rcases vx_callV X hx (C := C) (bytes := bytes) (maxL := maxL) (ret := ret) ho hl hin hse hcode hy hK (by rw [hT]; exact hcB) hoB hclB hg (hsize.trans hml.symm) (argsL := As) (rest := rest) (fun sig h => hn.trans (hlen sig h)) hstack hW (by rw [hb]; exact hdg)
    (fun vm₁ hW₁ => ⟨hf.1, hf.2, hPc (T.setVm vm₁) hT hW₁⟩) with ⟨v, vm₁, ⟨U', l2, c2, s2⟩, hW₁, X', ⟨g', mk, t, L, e1, e2, hq, h1, hL, h2, h3⟩, st⟩ | ⟨q, vm₁, ⟨U', l2, c2, s2⟩, hW₁, X', ⟨g', mk, t, L, E, ce, e1, e2, hq, hce, hcv, hcl, h1, hL, h2, h3⟩, st⟩
  · dsimp only [Pt.U, Pt.locs, Pt.cells, Pt.slots] at X' e1 e2 h1 h2 h3 st
    subst h1; subst h2; subst h3
    exact Or.inl ⟨v, (T.setVm vm₁).calling g' mk (Value.ref b :: As).toArray, t, U', L, hT, X', hL, e1, e2, hq, st⟩
  · dsimp only [Pt.U, Pt.locs, Pt.cells, Pt.slots] at X' e1 e2 h1 h2 h3 st hcl
    subst h1; subst h2; subst h3
    exact Or.inr ⟨q, (T.setVm vm₁).calling g' mk (Value.ref b :: As).toArray, t, U', L, E, ce, hT, X', hL, e1, e2, hq, hce, hcv, vx_cls hW₁ hcl, st⟩
theorem vx_runS (S : CallFix p m c cc nL s args Ts own) (hM : vx_Met l y ws rm Pc Qc XC mc ms free) (cw : CallB R s args own index y bytes maxL ret ws rm mc ms n ∧ (Cond.static y).before args s = true) (hp : PreS s H Pc As)
    (hg : g.method = m) (hn : As.length = n) (hsize : g.locals.size = nL) (hstack : g.stack = As.reverse ++ rest) (hW : 2 * g.monitorRoom + (rest.map fun v => v.category).sum ≤ 8) (hdg : decode cc g.pc = .ok (.invokestatic index, 3)) (hf : cells + mc ≤ R.cells ∧ slots + ms ≤ R.slots) :
    vx_Run p l e R s m args below meth c H locs cells slots mc ms g rest (Qc As.toArray) XC free := by
  have hK : vx_Back l R p e below s args y 3 8 (PreOf R mc ms Pc) (PostOf Qc mc ms free) (vx_Post XC mc ms free) := vx_callBack cw.1 hM hp.1
  obtain ⟨⟨-, -, -, -, -, -, hcode, hini, hy, hlen, hl⟩, hstt⟩ := cw
  obtain ⟨hx, hb, hml, ho, -⟩ := S
  intro T hT X
  rcases vx_callS X hx (bytes := bytes) (maxL := maxL) (ret := ret) ho hl hstt hini hcode hy hK hg (hsize.trans hml.symm) (argsL := As) (rest := rest) (fun sig h => hn.trans (hlen sig h)) hstack hW (by rw [hb]; exact hdg)
    (fun vm₁ hW₁ => ⟨hf.1, hf.2, hp.2 (T.setVm vm₁) hT hW₁⟩) with ⟨v, vm₁, ⟨U', l2, c2, s2⟩, hW₁, X', ⟨g', mk, t, L, e1, e2, hq, h1, hL, h2, h3⟩, st⟩ | ⟨q, vm₁, ⟨U', l2, c2, s2⟩, hW₁, X', ⟨g', mk, t, L, E, ce, e1, e2, hq, hce, hcv, hcl, h1, hL, h2, h3⟩, st⟩
  · dsimp only [Pt.U, Pt.locs, Pt.cells, Pt.slots] at X' e1 e2 h1 h2 h3 st
    subst h1; subst h2; subst h3
    exact Or.inl ⟨v, (T.setVm vm₁).calling g' mk As.toArray, t, U', L, hT, X', hL, e1, e2, hq, st⟩
  · dsimp only [Pt.U, Pt.locs, Pt.cells, Pt.slots] at X' e1 e2 h1 h2 h3 st hcl
    subst h1; subst h2; subst h3
    exact Or.inr ⟨q, (T.setVm vm₁).calling g' mk As.toArray, t, U', L, E, ce, hT, X', hL, e1, e2, hq, hce, hcv, vx_cls hW₁ hcl, st⟩
end Runs
section Rows
variable {p : Program} {l : Launch} {e : Env} {R : Room} {s : State} {m : MethodId} {args : Array Value} {below : List Frame} {meth : Method} {c : Code} {H : Heap} {locs : List Loc} {cells slots : Nat} {Q : State → Prop}
variable {mc ms : Nat} {free : Addr → Prop} {A0 A1 : Nat → Prop} {H0 : Heap} {a : Array Value} {pc : Nat} {ls : Array Slot} {st0 rest : List Value}
theorem vx_keep {st₀ t T' : State} {L : List Loc} (h0 : st₀.heap = H) (e1 : T'.heap = t.heap) (hS : va_S A0 H0 H locs) (hA : ∀ q, q < H.size → A1 q → A0 q) (hf : ∀ q, free q → A0 q) (hL : ∀ q ∈ L, free q.base) (hF : va_F A1 st₀ t) :
    H.size ≤ T'.heap.size ∧ (∀ q : Nat, q < H.size → ¬ A1 q → T'.heap[q]? = H[q]?) ∧ va_S A0 H0 T'.heap (locs ++ L) := by
  obtain ⟨hz, hk⟩ := hF
  rw [h0] at hz hk
  exact ⟨by rw [e1]; exact hz, fun q h1 h2 => by rw [e1]; exact hk q h1 h2,
    ⟨Nat.le_trans hS.1 (by rw [e1]; exact hz), fun q h1 h2 => by rw [e1, hk q (Nat.lt_of_lt_of_le h1 hS.1) (fun z => h2 (hA q (Nat.lt_of_lt_of_le h1 hS.1) z))]; exact hS.2.1 q h1 h2, fun q hq => by
      rcases List.mem_append.mp hq with h | h
      · exact hS.2.2 q h
      · exact hf _ (hL q h)⟩⟩
theorem vx_calli {S SX : Type} {post : Int32 → S → Prop} {px : SX → Prop} {B : S → State → Prop} {BX : String → SX → State → Prop} {AX : Nat → Prop} (hr : vx_Run p l e R s m args below meth c H locs cells slots mc ms (F0 m pc ls st0) rest (va_Qi post B A1 a) (vx_X px BX AX) free) (hS : va_S A0 H0 H locs) (hA : ∀ q, q < H.size → A1 q → A0 q) (hf : ∀ q, free q → A0 q) (hAX : ∀ q, q < H.size → AX q → A0 q)
    (kx : ∀ (E : String) (ce : Cell) (q9 : Addr) (u : SX) (t : State) (H1 : Heap) (locs1 : List Loc), t.heap = H1 → s.vm.Alike t.vm → px u → BX E u t → H.size ≤ H1.size → (∀ q : Nat, q < H.size → ¬ AX q → H1[q]? = H[q]?) → va_S A0 H0 H1 locs1 → H1[q9]? = some ce → ce.vm = .none → s.vm.findClass E = some ce.cls → vx_W p l e R s m args below meth c H1 locs1 (cells + mc) (slots + ms) Q (F0 m pc ls rest) q9)
    (kk : ∀ (r : Int32) (u : S) (t : State) (H1 : Heap) (locs1 : List Loc), t.heap = H1 → s.vm.Alike t.vm → post r u → B u t → H.size ≤ H1.size → (∀ q : Nat, q < H.size → ¬ A1 q → H1[q]? = H[q]?) → va_S A0 H0 H1 locs1 → W p l e R s m args below meth c H1 locs1 (cells + mc) (slots + ms) Q (F0 m (pc + 3) ls (.int r :: rest))) : W p l e R s m args below meth c H locs cells slots Q (F0 m pc ls st0) := by
  intro T hT X
  rcases hr T hT X with ⟨v, st₀, t, T', L, h0, X', hL, e1, e2, ⟨⟨r, u, hv, hp, hb⟩, hF⟩, st⟩ | ⟨q, st₀, t, T', L, E, ce, h0, X', hL, e1, e2, ⟨u, hp, hb, hF⟩, hce, hcv, hcl, st⟩
  · cases hv
    obtain ⟨k1, k2, k3⟩ := vx_keep h0 e1 hS hA hf hL hF
    obtain ⟨t2, a1, b1⟩ := kk r u t T'.heap (locs ++ L) e1.symm (by rw [← e2]; exact X'.warmed.alike) hp hb k1 k2 k3 T' rfl X'
    exact ⟨t2, st t2 a1, b1⟩
  · obtain ⟨k1, k2, k3⟩ := vx_keep h0 e1 hS hAX hf hL hF
    obtain ⟨t2, a1, b1⟩ := kx E ce q u t T'.heap (locs ++ L) e1.symm (by rw [← e2]; exact X'.warmed.alike) hp hb k1 k2 k3 (by rw [e1]; exact hce) hcv hcl T' rfl X'
    exact ⟨t2, st.trans a1, b1⟩
theorem vx_calll {S SX : Type} {post : Int64 → S → Prop} {px : SX → Prop} {B : S → State → Prop} {BX : String → SX → State → Prop} {AX : Nat → Prop} (hr : vx_Run p l e R s m args below meth c H locs cells slots mc ms (F0 m pc ls st0) rest (va_Ql post B A1 a) (vx_X px BX AX) free) (hS : va_S A0 H0 H locs) (hA : ∀ q, q < H.size → A1 q → A0 q) (hf : ∀ q, free q → A0 q) (hAX : ∀ q, q < H.size → AX q → A0 q)
    (kx : ∀ (E : String) (ce : Cell) (q9 : Addr) (u : SX) (t : State) (H1 : Heap) (locs1 : List Loc), t.heap = H1 → s.vm.Alike t.vm → px u → BX E u t → H.size ≤ H1.size → (∀ q : Nat, q < H.size → ¬ AX q → H1[q]? = H[q]?) → va_S A0 H0 H1 locs1 → H1[q9]? = some ce → ce.vm = .none → s.vm.findClass E = some ce.cls → vx_W p l e R s m args below meth c H1 locs1 (cells + mc) (slots + ms) Q (F0 m pc ls rest) q9)
    (kk : ∀ (r : Int64) (u : S) (t : State) (H1 : Heap) (locs1 : List Loc), t.heap = H1 → s.vm.Alike t.vm → post r u → B u t → H.size ≤ H1.size → (∀ q : Nat, q < H.size → ¬ A1 q → H1[q]? = H[q]?) → va_S A0 H0 H1 locs1 → W p l e R s m args below meth c H1 locs1 (cells + mc) (slots + ms) Q (F0 m (pc + 3) ls (.long r :: rest))) : W p l e R s m args below meth c H locs cells slots Q (F0 m pc ls st0) := by
  intro T hT X
  rcases hr T hT X with ⟨v, st₀, t, T', L, h0, X', hL, e1, e2, ⟨⟨r, u, hv, hp, hb⟩, hF⟩, st⟩ | ⟨q, st₀, t, T', L, E, ce, h0, X', hL, e1, e2, ⟨u, hp, hb, hF⟩, hce, hcv, hcl, st⟩
  · cases hv
    obtain ⟨k1, k2, k3⟩ := vx_keep h0 e1 hS hA hf hL hF
    obtain ⟨t2, a1, b1⟩ := kk r u t T'.heap (locs ++ L) e1.symm (by rw [← e2]; exact X'.warmed.alike) hp hb k1 k2 k3 T' rfl X'
    exact ⟨t2, st t2 a1, b1⟩
  · obtain ⟨k1, k2, k3⟩ := vx_keep h0 e1 hS hAX hf hL hF
    obtain ⟨t2, a1, b1⟩ := kx E ce q u t T'.heap (locs ++ L) e1.symm (by rw [← e2]; exact X'.warmed.alike) hp hb k1 k2 k3 (by rw [e1]; exact hce) hcv hcl T' rfl X'
    exact ⟨t2, st.trans a1, b1⟩
theorem vx_callf {S SX : Type} {post : UInt32 → S → Prop} {px : SX → Prop} {B : S → State → Prop} {BX : String → SX → State → Prop} {AX : Nat → Prop} (hr : vx_Run p l e R s m args below meth c H locs cells slots mc ms (F0 m pc ls st0) rest (va_Qf post B A1 a) (vx_X px BX AX) free) (hS : va_S A0 H0 H locs) (hA : ∀ q, q < H.size → A1 q → A0 q) (hf : ∀ q, free q → A0 q) (hAX : ∀ q, q < H.size → AX q → A0 q)
    (kx : ∀ (E : String) (ce : Cell) (q9 : Addr) (u : SX) (t : State) (H1 : Heap) (locs1 : List Loc), t.heap = H1 → s.vm.Alike t.vm → px u → BX E u t → H.size ≤ H1.size → (∀ q : Nat, q < H.size → ¬ AX q → H1[q]? = H[q]?) → va_S A0 H0 H1 locs1 → H1[q9]? = some ce → ce.vm = .none → s.vm.findClass E = some ce.cls → vx_W p l e R s m args below meth c H1 locs1 (cells + mc) (slots + ms) Q (F0 m pc ls rest) q9)
    (kk : ∀ (r : UInt32) (u : S) (t : State) (H1 : Heap) (locs1 : List Loc), t.heap = H1 → s.vm.Alike t.vm → post r u → B u t → H.size ≤ H1.size → (∀ q : Nat, q < H.size → ¬ A1 q → H1[q]? = H[q]?) → va_S A0 H0 H1 locs1 → W p l e R s m args below meth c H1 locs1 (cells + mc) (slots + ms) Q (F0 m (pc + 3) ls (.float r :: rest))) : W p l e R s m args below meth c H locs cells slots Q (F0 m pc ls st0) := by
  intro T hT X
  rcases hr T hT X with ⟨v, st₀, t, T', L, h0, X', hL, e1, e2, ⟨⟨r, u, hv, hp, hb⟩, hF⟩, st⟩ | ⟨q, st₀, t, T', L, E, ce, h0, X', hL, e1, e2, ⟨u, hp, hb, hF⟩, hce, hcv, hcl, st⟩
  · cases hv
    obtain ⟨k1, k2, k3⟩ := vx_keep h0 e1 hS hA hf hL hF
    obtain ⟨t2, a1, b1⟩ := kk r u t T'.heap (locs ++ L) e1.symm (by rw [← e2]; exact X'.warmed.alike) hp hb k1 k2 k3 T' rfl X'
    exact ⟨t2, st t2 a1, b1⟩
  · obtain ⟨k1, k2, k3⟩ := vx_keep h0 e1 hS hAX hf hL hF
    obtain ⟨t2, a1, b1⟩ := kx E ce q u t T'.heap (locs ++ L) e1.symm (by rw [← e2]; exact X'.warmed.alike) hp hb k1 k2 k3 (by rw [e1]; exact hce) hcv hcl T' rfl X'
    exact ⟨t2, st.trans a1, b1⟩
theorem vx_calld {S SX : Type} {post : UInt64 → S → Prop} {px : SX → Prop} {B : S → State → Prop} {BX : String → SX → State → Prop} {AX : Nat → Prop} (hr : vx_Run p l e R s m args below meth c H locs cells slots mc ms (F0 m pc ls st0) rest (va_Qd post B A1 a) (vx_X px BX AX) free) (hS : va_S A0 H0 H locs) (hA : ∀ q, q < H.size → A1 q → A0 q) (hf : ∀ q, free q → A0 q) (hAX : ∀ q, q < H.size → AX q → A0 q)
    (kx : ∀ (E : String) (ce : Cell) (q9 : Addr) (u : SX) (t : State) (H1 : Heap) (locs1 : List Loc), t.heap = H1 → s.vm.Alike t.vm → px u → BX E u t → H.size ≤ H1.size → (∀ q : Nat, q < H.size → ¬ AX q → H1[q]? = H[q]?) → va_S A0 H0 H1 locs1 → H1[q9]? = some ce → ce.vm = .none → s.vm.findClass E = some ce.cls → vx_W p l e R s m args below meth c H1 locs1 (cells + mc) (slots + ms) Q (F0 m pc ls rest) q9)
    (kk : ∀ (r : UInt64) (u : S) (t : State) (H1 : Heap) (locs1 : List Loc), t.heap = H1 → s.vm.Alike t.vm → post r u → B u t → H.size ≤ H1.size → (∀ q : Nat, q < H.size → ¬ A1 q → H1[q]? = H[q]?) → va_S A0 H0 H1 locs1 → W p l e R s m args below meth c H1 locs1 (cells + mc) (slots + ms) Q (F0 m (pc + 3) ls (.double r :: rest))) : W p l e R s m args below meth c H locs cells slots Q (F0 m pc ls st0) := by
  intro T hT X
  rcases hr T hT X with ⟨v, st₀, t, T', L, h0, X', hL, e1, e2, ⟨⟨r, u, hv, hp, hb⟩, hF⟩, st⟩ | ⟨q, st₀, t, T', L, E, ce, h0, X', hL, e1, e2, ⟨u, hp, hb, hF⟩, hce, hcv, hcl, st⟩
  · cases hv
    obtain ⟨k1, k2, k3⟩ := vx_keep h0 e1 hS hA hf hL hF
    obtain ⟨t2, a1, b1⟩ := kk r u t T'.heap (locs ++ L) e1.symm (by rw [← e2]; exact X'.warmed.alike) hp hb k1 k2 k3 T' rfl X'
    exact ⟨t2, st t2 a1, b1⟩
  · obtain ⟨k1, k2, k3⟩ := vx_keep h0 e1 hS hAX hf hL hF
    obtain ⟨t2, a1, b1⟩ := kx E ce q u t T'.heap (locs ++ L) e1.symm (by rw [← e2]; exact X'.warmed.alike) hp hb k1 k2 k3 (by rw [e1]; exact hce) hcv hcl T' rfl X'
    exact ⟨t2, st.trans a1, b1⟩
theorem vx_callv {S SX : Type} {post : S → Prop} {px : SX → Prop} {B : S → State → Prop} {BX : String → SX → State → Prop} {AX : Nat → Prop} (hr : vx_Run p l e R s m args below meth c H locs cells slots mc ms (F0 m pc ls st0) rest (va_Qv post B A1 a) (vx_X px BX AX) free) (hS : va_S A0 H0 H locs) (hA : ∀ q, q < H.size → A1 q → A0 q) (hf : ∀ q, free q → A0 q) (hAX : ∀ q, q < H.size → AX q → A0 q)
    (kx : ∀ (E : String) (ce : Cell) (q9 : Addr) (u : SX) (t : State) (H1 : Heap) (locs1 : List Loc), t.heap = H1 → s.vm.Alike t.vm → px u → BX E u t → H.size ≤ H1.size → (∀ q : Nat, q < H.size → ¬ AX q → H1[q]? = H[q]?) → va_S A0 H0 H1 locs1 → H1[q9]? = some ce → ce.vm = .none → s.vm.findClass E = some ce.cls → vx_W p l e R s m args below meth c H1 locs1 (cells + mc) (slots + ms) Q (F0 m pc ls rest) q9)
    (kk : ∀ (u : S) (t : State) (H1 : Heap) (locs1 : List Loc), t.heap = H1 → s.vm.Alike t.vm → post u → B u t → H.size ≤ H1.size → (∀ q : Nat, q < H.size → ¬ A1 q → H1[q]? = H[q]?) → va_S A0 H0 H1 locs1 → W p l e R s m args below meth c H1 locs1 (cells + mc) (slots + ms) Q (F0 m (pc + 3) ls (rest))) : W p l e R s m args below meth c H locs cells slots Q (F0 m pc ls st0) := by
  intro T hT X
  rcases hr T hT X with ⟨v, st₀, t, T', L, h0, X', hL, e1, e2, ⟨⟨u, hv, hp, hb⟩, hF⟩, st⟩ | ⟨q, st₀, t, T', L, E, ce, h0, X', hL, e1, e2, ⟨u, hp, hb, hF⟩, hce, hcv, hcl, st⟩
  · cases hv
    obtain ⟨k1, k2, k3⟩ := vx_keep h0 e1 hS hA hf hL hF
    obtain ⟨t2, a1, b1⟩ := kk u t T'.heap (locs ++ L) e1.symm (by rw [← e2]; exact X'.warmed.alike) hp hb k1 k2 k3 T' rfl X'
    exact ⟨t2, st t2 a1, b1⟩
  · obtain ⟨k1, k2, k3⟩ := vx_keep h0 e1 hS hAX hf hL hF
    obtain ⟨t2, a1, b1⟩ := kx E ce q u t T'.heap (locs ++ L) e1.symm (by rw [← e2]; exact X'.warmed.alike) hp hb k1 k2 k3 (by rw [e1]; exact hce) hcv hcl T' rfl X'
    exact ⟨t2, st.trans a1, b1⟩
end Rows
section Ends
variable {p : Program} {l : Launch} {e : Env} {R : Room} {s : State} {m : MethodId} {args : Array Value} {below : List Frame} {meth : Method} {c : Code} {H : Heap} {locs : List Loc} {cells slots : Nat} {Q : State → Prop}
variable {mc ms : Nat} {free : Addr → Prop} {A0 A1 : Nat → Prop} {H0 : Heap} {a : Array Value} {ls : Array Slot} {st0 rest : List Value}
variable {Qc : Array Value → State → Outcome → State → Prop} {XC : String → State → State → Prop}
/-- what a body that may throw owes at its end -/
def vx_MQ (below : List Frame) (Qc : Array Value → State → Outcome → State → Prop) (XC : String → State → State → Prop) (a : Array Value) (s : State) (mc ms : Nat) (free : Addr → Prop) : State → Prop := fun t =>
  ∃ o, t.status = .running ∧ Ended t below o ∧ vx_Q Qc XC mc ms free a s o t
theorem vx_ret {g : JFrame} {mc ms : Nat} (k : W p l e R s m args below meth c H locs cells slots (MQ below Qc args s mc ms free) g) : W p l e R s m args below meth c H locs cells slots (vx_MQ below Qc XC args s mc ms free) g := by
  intro T hT X
  obtain ⟨t, a1, o, b1, b2, b3, b4⟩ := k T hT X
  exact ⟨t, a1, o, b1, b2, Or.inl ⟨b3, b4⟩⟩
/-- not caught here: it goes on to the caller -/
theorem vx_widen {g : JFrame} {q : Addr} {k n : Nat} (h1 : cells ≤ k) (h2 : slots ≤ n) (kk : vx_W p l e R s m args below meth c H locs k n Q g q) : vx_W p l e R s m args below meth c H locs cells slots Q g q := fun T hT X => kk T hT (stand_widen X h1 h2)
theorem vx_out {pc : Nat} {E : String} {ce : Cell} {q : Addr} {mc ms : Nat} (hout : ∀ x ∈ c.exceptionTable.toList, covers x pc = false) (hlocks : meth.locks = false) (hcell : H[q]? = some ce) (hv : ce.vm = .none) (hcl : s.vm.findClass E = some ce.cls)
    (hx : ∀ t : State, t.heap = H → s.vm.Alike t.vm → XC E s t) (hf : ∀ z ∈ locs, free z.base) (hc : cells ≤ mc) (hs : slots ≤ ms) :
    vx_W p l e R s m args below meth c H locs cells slots (vx_MQ below Qc XC args s mc ms free) (F0 m pc ls rest) q := by
  intro T hT X
  obtain ⟨st1, hrun, hend, hW, hsm⟩ := X.leaveThrown q (g := F0 m pc ls rest) rfl rfl rfl hout hlocks
  have hcell9 : (T.setFrames (.throwing q :: below)).heap[q]? = some ce := by
    show T.heap[q]? = some ce
    rw [hT]; exact hcell
  exact ⟨_, st1, .threw q, hrun, hend, Or.inr ⟨q, rfl, E, ce, locs, hx _ hT hW.alike, hcell9, hv, hcl, hW, hsm.mono hc hs, hf⟩⟩
theorem vx_frame {U : State} {k n : Nat} (h : s.sameButNew ({ U with vm := s.vm } : State) locs k n) : s.heap.size ≤ U.heap.size ∧ ∀ q : Nat, q < s.heap.size → (∀ z ∈ locs, z.base ≠ q) → U.heap[q]? = s.heap[q]? := by
  obtain ⟨-, h2, -, -, -, h6⟩ := h
  refine ⟨h2, fun q hq hz => ?_⟩
  obtain ⟨c9, e1, e2, e3, e4⟩ := h6 q _ (Array.getElem?_eq_getElem hq)
  have hs : c9.slots = (s.heap[q]).slots := Array.ext_getElem? fun i => e4 i fun hm => hz _ hm rfl
  have h9 : c9 = s.heap[q] := by
    rw [hs] at e2
    exact e2
  have e5 : U.heap[q]? = some c9 := e1
  rw [e5, h9, Array.getElem?_eq_getElem hq]
/-- the words of a throw but the four that speak of the heap -/
def vx_no (w : Cond) : Bool := decide (w ≠ .isRef (.static Bundle.tN "UNASSIGNED_STACK" Bundle.steD)) && decide (w ≠ .isRef (.static Bundle.tN "SUPPRESSED_SENTINEL" Bundle.listD)) && decide (w ≠ .laysStatic Bundle.tN "UNASSIGNED_STACK" Bundle.steD) && decide (w ≠ .laysStatic Bundle.tN "SUPPRESSED_SENTINEL" Bundle.listD)
def vx_at0 (own : String) (ic : Nat) (X : String) (names : List String) : List Cond := (Bundle.ownAtoms0 own ic X names).filter vx_no
def vx_atS (own : String) (ic : Nat) (X : String) (names : List String) : List Cond := (Bundle.ownAtoms own ic X names).filter vx_no
/-- a word that the tables alone decide, or a good one -/
def vx_ot (w : Cond) : Bool := w.onTables || goodWord w
theorem vx_ot_at {args a' : Array Value} {s U : State} {w : Cond} (hW : s.WarmedH U.vm) (hvm : s.vm = U.vm) (hg : vx_ot w = true) (h : w.before args s = true) : w.before a' U = true := by
  simp only [vx_ot, Bool.or_eq_true] at hg
  rcases hg with hg | hg
  · exact va_tabs hg hvm h
  · exact word_at hW (good_of_word hg) h
/-- a list's words: the good ones out of the method's own list, the others by premises of their own -/
theorem vx_hat {args : Array Value} {s : State} {L B : List Cond} (h1 : ∀ w ∈ L.filter goodWord, w.before args s = true) (h2 : ∀ w ∈ L.filter (fun w => !goodWord w), w ∈ B) (h3 : ∀ w ∈ B, w.before args s = true) : ∀ w ∈ L, w.before args s = true := by
  intro w hw
  by_cases g : goodWord w = true
  · exact h1 w (List.mem_filter.mpr ⟨hw, g⟩)
  · refine h3 w (h2 w (List.mem_filter.mpr ⟨hw, ?_⟩))
    show (!goodWord w) = true
    cases hgw : goodWord w
    · rfl
    · exact absurd hgw g
theorem vx_c {args : Array Value} {s : State} {w : Cond} {B : List Cond} (h : w.before args s = true) (t : ∀ w ∈ B, w.before args s = true) : ∀ w' ∈ w :: B, w'.before args s = true := fun w' h' => (List.mem_cons.mp h').elim (fun e => by rw [e]; exact h) (t w')
theorem vx_n {args : Array Value} {s : State} : ∀ w ∈ ([] : List Cond), w.before args s = true := fun _ h => nomatch h
theorem vx_own {args : Array Value} {s : State} {L : List Cond} (h1 : ∀ w ∈ L.filter vx_no, w.before args s = true)
    (hU : (Cond.isRef (.static Bundle.tN "UNASSIGNED_STACK" Bundle.steD)).before args s = true) (hN : (Cond.isRef (.static Bundle.tN "SUPPRESSED_SENTINEL" Bundle.listD)).before args s = true)
    (lU : (Cond.laysStatic Bundle.tN "UNASSIGNED_STACK" Bundle.steD).before args s = true) (lN : (Cond.laysStatic Bundle.tN "SUPPRESSED_SENTINEL" Bundle.listD).before args s = true) : ∀ w ∈ L, w.before args s = true := by
  intro w hw
  by_cases e1 : w = .isRef (.static Bundle.tN "UNASSIGNED_STACK" Bundle.steD)
  · rw [e1]; exact hU
  · by_cases e2 : w = .isRef (.static Bundle.tN "SUPPRESSED_SENTINEL" Bundle.listD)
    · rw [e2]; exact hN
    · by_cases e3 : w = .laysStatic Bundle.tN "UNASSIGNED_STACK" Bundle.steD
      · rw [e3]; exact lU
      · by_cases e4 : w = .laysStatic Bundle.tN "SUPPRESSED_SENTINEL" Bundle.listD
        · rw [e4]; exact lN
        · exact h1 w (List.mem_filter.mpr ⟨hw, by unfold vx_no; rw [decide_eq_true e1, decide_eq_true e2, decide_eq_true e3, decide_eq_true e4]; rfl⟩)
/-- where a static field lies, its class's statics cell in H -/
def vx_L (C n d : String) (A : Nat → Prop) (U : State) (H : Heap) : Prop := ∃ (c : ClassId) (k : Class) (i : Nat) (f : Field) (a : Nat) (cell : Cell), U.vm.findClass C = some c ∧ U.fieldFound? C n d = some (c, k, i, f) ∧ f.isStatic = true ∧ k.statics = some a ∧ H[a]? = some cell ∧ cell.vm.isStatics = true ∧ cell.cls = c ∧ f.slot < cell.slots.size ∧ k.staticTypes[f.slot]? = some f.type ∧ ¬ A a
theorem vx_L.moved {C n d : String} {A : Nat → Prop} {u U : State} {H : Heap} (hvm : u.vm.Alike U.vm) (h : vx_L C n d A u H) : vx_L C n d A U H := by
  obtain ⟨c, k, i, f, a, cell, h1, h2, h3, h4, h5, h6, h7, h8, h9, h10⟩ := h
  obtain ⟨k', hi', he⟩ := State.fieldFound?_setVm hvm h2
  exact ⟨c, k', i, f, a, cell, by rw [hvm.findClass]; exact h1, hi', h3, by rw [he]; exact h4, h5, h6, h7, h8, by rw [he]; exact h9, h10⟩
theorem vx_L.kept {C n d : String} {A : Nat → Prop} {U : State} {H H1 : Heap} (h : vx_L C n d A U H) (hq : ∀ a : Nat, a < H.size → ¬ A a → H1[a]? = H[a]?) : vx_L C n d A U H1 := by
  obtain ⟨c, k, i, f, a, cell, h1, h2, h3, h4, h5, h6, h7, h8, h9, h10⟩ := h
  exact ⟨c, k, i, f, a, cell, h1, h2, h3, h4, by rw [hq a (Array.getElem?_eq_some_iff.mp h5).1 h10]; exact h5, h6, h7, h8, h9, h10⟩
theorem vx_L.narrow {C n d : String} {A B : Nat → Prop} {U : State} {H : Heap} (h : vx_L C n d A U H) (hAB : ∀ q, B q → A q) : vx_L C n d B U H := by
  obtain ⟨c, k, i, f, a, cell, h1, h2, h3, h4, h5, h6, h7, h8, h9, h10⟩ := h
  exact ⟨c, k, i, f, a, cell, h1, h2, h3, h4, h5, h6, h7, h8, h9, fun z => h10 (hAB _ z)⟩
theorem vx_L.word {C n d : String} {A : Nat → Prop} {s : State} {args : Array Value} (h : vx_L C n d A s s.heap) : (Cond.laysStatic C n d).before args s = true := by
  obtain ⟨c, k, i, f, a, cell, h1, h2, h3, h4, h5, h6, h7, h8, h9, -⟩ := h
  show (Cond.laysStatic C n d).holds args s none s [] = true
  exact Cond.laysStatic_of h1 h2 h3 h4 h5 h6 h7 h8 h9
/-- .. and what it holds: null or some reference -/
def vx_Zq (C n d : String) (A : Nat → Prop) (U : State) (H : Heap) : Prop := va_Zq C n d A U H ∧ vx_L C n d A U H
theorem vx_Zq.moved {C n d : String} {A : Nat → Prop} {u U : State} {H : Heap} (hvm : u.vm.Alike U.vm) (h : vx_Zq C n d A u H) : vx_Zq C n d A U H := ⟨va_Zq.moved hvm h.1, vx_L.moved hvm h.2⟩
theorem vx_Zq.kept {C n d : String} {A : Nat → Prop} {U : State} {H H1 : Heap} (h : vx_Zq C n d A U H) (hq : ∀ a : Nat, a < H.size → ¬ A a → H1[a]? = H[a]?) : vx_Zq C n d A U H1 := ⟨va_Zq.kept h.1 hq, vx_L.kept h.2 hq⟩
theorem vx_Zq.narrow {C n d : String} {A B : Nat → Prop} {U : State} {H : Heap} (h : vx_Zq C n d A U H) (hAB : ∀ q, B q → A q) : vx_Zq C n d B U H := ⟨va_Zq.narrow h.1 hAB, vx_L.narrow h.2 hAB⟩
theorem vx_Zqof {args : Array Value} {s : State} {C n d : String} {A : Nat → Prop} (hl : (Cond.laysStatic C n d).before args s = true) (hini : (Cond.initialized C).before args s = true) (h : (Cond.isRef (.static C n d)).before args s = true) (hA : ∀ a : Nat, a < s.heap.size → ¬ A a) : vx_Zq C n d A s s.heap := by
  refine ⟨va_Zqof hl hini h hA, ?_⟩
  obtain ⟨c, k, i, f, a, cell, h1, h2, h3, h4, h5, h6, h7, h8, h9⟩ := Cond.laysStatic_spec hl
  exact ⟨c, k, i, f, a, cell, h1, h2, h3, h4, h5, h6, h7, h8, h9, hA a (Array.getElem?_eq_some_iff.mp h5).1⟩
theorem vx_isRef {C n d : String} {v : Value} {A : Nat → Prop} {s : State} {args : Array Value} (h : va_Z C n d v A s s.heap) (hv : v.isRef = true) : (Cond.isRef (.static C n d)).before args s = true := by
  obtain ⟨cf, kf, fi, f, a, cell, h1, h2, h3, h4, h5, h6, h7, -⟩ := h
  have he : (Term.static C n d).eval args s none [] s = some v := by
    simp [Term.eval, State.fieldNamed?, h1, h2, h4, h5, h6, h7]
  simp only [Cond.before, Cond.holds, Cond.value, he]
  cases v <;> simp_all [Value.isRef]
theorem vx_isRefq {C n d : String} {A : Nat → Prop} {s : State} {args : Array Value} (h : va_Zq C n d A s s.heap) : (Cond.isRef (.static C n d)).before args s = true := by
  rcases h with h | ⟨t, h⟩
  · exact vx_isRef h rfl
  · exact vx_isRef h rfl
/-- the same frame, seen from here: as if the method were called anew in this heap -/
theorem vx_rebase {T : State} (X : Stand p l e R s m args below meth c T locs cells slots) {R' : Room} (hf : R'.frames ≤ R.frames) (hl : R'.locals ≤ R.locals) (hc : cells + R'.cells ≤ R.cells) (hs : slots + R'.slots ≤ R.slots) :
    Stand p l e R' ((T.setVm s.vm).setFrames (.invoking m args :: below)) m args below meth c T [] 0 0 := by
  have htop : (T.setVm s.vm).topJava?.isSome := X.here.top
  have hF : ((T.setVm s.vm).setFrames (.invoking m args :: below)).frames = .invoking m args :: below := State.frames_setFrames _ (State.cur_lt_of_top htop)
  obtain ⟨g₀, hg0⟩ := Option.isSome_iff_exists.mp htop
  obtain ⟨r, hr⟩ := State.topJava?_eq_some.mp hg0
  have hl9 : e.platform.stackLimits (T.setVm s.vm).me = e.platform.stackLimits s.me := X.limits
  have hb9 : (T.setVm s.vm).me.stackBytes = s.me.stackBytes := X.bytes
  refine ⟨X.admits, X.cas, X.clock, hF, ?_, X.hears, X.method, X.code, X.here, X.tail, X.warmed, ?_, ?_, ?_⟩
  · have h := X.room
    have hU : ((T.setVm s.vm).setFrames (.invoking m args :: below)).localsInUse = s.localsInUse := by
      rw [State.localsInUse_invoking hF (meth := meth) (c := c) X.method X.code, State.localsInUse_invoking X.frames X.method X.code]
    simp only [State.hasRoom, Bool.and_eq_true, decide_eq_true_eq] at h ⊢
    obtain ⟨⟨⟨⟨h1, h2, h3, h4, h5, h6⟩, h7⟩, h8⟩, h9⟩ := h
    rw [X.frames, List.length_cons] at h2 h3
    have q1 := X.heapSize
    have q2 := X.used
    simp only [hF, hU, List.length_cons, State.stackLimits_setFrames, State.stackBytes_setFrames, hl9, hb9]
    refine ⟨⟨⟨⟨by omega, by omega, by omega, by omega, by omega, h6⟩, ?_⟩, ?_⟩, X.book⟩
    · show T.heap.size + R'.cells ≤ e.platform.maxCells
      omega
    · show T.slotsUsed + R'.slots ≤ e.platform.maxSlots
      omega
  · rw [State.stackLimits_setFrames]; rfl
  · rw [State.stackBytes_setFrames]; rfl
  · refine ⟨?_, Nat.le_refl _, Nat.le_refl _, ?_, ?_, fun a c9 h9 => ⟨c9, h9, rfl, rfl, fun _ _ => rfl⟩⟩
    · obtain ⟨t, ht, -⟩ := State.frames_cons hr
      show T.setVm s.vm = { ((T.setVm s.vm).setFrames (.invoking m args :: below)).setFrames (T.setVm s.vm).frames with heap := T.heap, slotsUsed := T.slotsUsed }
      rw [State.setFrames_setFrames, State.setFrames_self ht]
      rfl
    · show T.slotsUsed = T.slotsUsed + ((T.heap.toList.drop T.heap.size).map (·.slots.size)).sum
      rw [List.drop_eq_nil_of_le (Nat.le_of_eq Array.length_toList)]
      rfl
    · show ((T.heap.toList.drop T.heap.size).map (·.slots.size)).sum ≤ 0
      rw [List.drop_eq_nil_of_le (Nat.le_of_eq Array.length_toList)]
      exact Nat.le_refl _
/-- 'throw new E()': new; dup; invokespecial; athrow -/
theorem vx_throw0 {cc : ByteArray} {pc : Nat} (hexec : p.tables.exec = Jvm.exec) (hb : c.code = cc) (hl : l.stackTraces = false) {own cls : String} {names : List String} {ik ic mc ms : Nat} {A : Nat → Prop}
    (hown : s.vm.findClass own = some m.cls) (hcls : Bundle.fit cls = true) (hnames : ∀ n ∈ names, Bundle.fit n = true)
    (hk : (Cond.classLink own ik cls).before args s = true) (hini : (Cond.initialized cls).before args s = true) (hat : ∀ w ∈ vx_at0 own ic cls names, w.before args s = true)
    (hgood : ∀ w ∈ Cond.classLink own ik cls :: Cond.initialized cls :: vx_at0 own ic cls names, vx_ot w = true)
    (hU : vx_Zq Bundle.tN "UNASSIGNED_STACK" Bundle.steD A s s.heap) (hN : vx_Zq Bundle.tN "SUPPRESSED_SENTINEL" Bundle.listD A s s.heap) (hS : va_S A s.heap H locs) (hsize : ls.size = c.maxLocals)
    (d0 : decode cc pc = .ok (.new ik, 3)) (d3 : decode cc (pc + 3) = .ok (.dup, 1)) (d4 : decode cc (pc + 4) = .ok (.invokespecial ic, 3)) (d7 : decode cc (pc + 7) = .ok (.athrow, 1))
    (hout : ∀ x ∈ c.exceptionTable.toList, covers x (pc + 7) = false)
    (hRframes : names.length + 3 < R.frames) (hRlocals : (rest.map fun v => v.category).sum + (13 * (names.length + 1) + 42) ≤ R.locals) (hRcells : cells + 1 ≤ R.cells) (hRslots : slots + 6 ≤ R.slots) (hlocks : meth.locks = false)
    (hx : ∀ t : State, s.vm.Alike t.vm → H.size ≤ t.heap.size → (∀ q : Nat, q < H.size → t.heap[q]? = H[q]?) → XC cls s t)
    (hf : ∀ z ∈ locs, free z.base) (hc : cells + 1 ≤ mc) (hs : slots + 6 ≤ ms) :
    W p l e R s m args below meth c H locs cells slots (vx_MQ below Qc XC args s mc ms free) (F0 m pc ls rest) := by
  intro T hT X
  have htr : e.platform.stackTraces = false := (show e.platform.stackTraces = l.stackTraces by rw [X.admits.platform]).trans hl
  have Y := vx_rebase X (R' := { frames := R.frames, locals := R.locals, cells := 1, slots := 6 }) (Nat.le_refl _) (Nat.le_refl _) hRcells hRslots
  obtain ⟨s', hA⟩ : ∃ z, z = (T.setVm s.vm).setFrames (.invoking m args :: below) := ⟨_, rfl⟩
  rw [← hA] at Y
  have hvm : s'.vm = s.vm := by rw [hA]; rfl
  have hhp : s'.heap = H := by rw [hA]; exact hT
  have hW0 : s.WarmedH s'.vm := by rw [hvm]; exact State.WarmedH.refl s
  have hat' : ∀ w ∈ vx_at0 own ic cls names, w.before args s' = true := fun w hw => vx_ot_at hW0 hvm.symm (hgood w (List.mem_cons_of_mem _ (List.mem_cons_of_mem _ hw))) (hat w hw)
  have hk' : (Cond.classLink own ik cls).before args s' = true := vx_ot_at hW0 hvm.symm (hgood _ List.mem_cons_self) hk
  have hini' : (Cond.initialized cls).before args s' = true := vx_ot_at hW0 hvm.symm (hgood _ (List.mem_cons_of_mem _ List.mem_cons_self)) hini
  have hU' : vx_Zq Bundle.tN "UNASSIGNED_STACK" Bundle.steD A s' s'.heap := by rw [hhp]; exact vx_Zq.moved hW0.alike (hU.kept hS.2.1)
  have hN' : vx_Zq Bundle.tN "SUPPRESSED_SENTINEL" Bundle.listD A s' s'.heap := by rw [hhp]; exact vx_Zq.moved hW0.alike (hN.kept hS.2.1)
  have h : ∀ w ∈ Bundle.ownAtoms0 own ic cls names, w.before args s' = true := vx_own hat' (vx_isRefq hU'.1) (vx_isRefq hN'.1) hU'.2.word hN'.2.word
  have hown' : s'.vm.findClass own = some m.cls := by rw [hvm]; exact hown
  have hins : (Cond.instantiable cls 6).before args s' = true := h _ (by simp [Bundle.ownAtoms0])
  obtain ⟨vm₁, cX, kX, hfX, hkX, -, -, X₁, st1⟩ := Y.newCold hexec (own := own) (C := cls) (index := ik) (n := 6) hown' hk' hins hini'
    (g := F0 m pc ls rest) rfl (by rw [hb]; exact d0) (Nat.le_refl _) (Nat.le_refl _)
  generalize hT1 : (T.setVm vm₁).pushCell { cls := cX, slots := kX.instanceTypes.map defaultValue, vm := .none } = T1 at X₁ st1
  have hcat : (Value.ref T.heap.size).category = 1 := rfl
  have hcellA : T1.heap[T.heap.size]? = some (freshCell cX kX) := by rw [← hT1]; exact State.heap_pushCell_size _ _
  have d3' : decode c.code (pc + 3) = .ok (.dup, 1) := by rw [hb]; exact d3
  obtain ⟨U, hsteps, hrun, hend, hW, hsame, ce, hce, hO⟩ := X₁.ctorThrow0 hexec htr (own := own) (cls := cls) (names := names) (ic := ic) hown' hcls hnames h (fun x hx => nomatch hx) hfX hkX hcellA (by rw [hhp, hT]; exact Nat.le_refl _)
    (g := { method := m, pc := pc + 4, locals := ls, stack := .ref T.heap.size :: .ref T.heap.size :: rest, locked := none }) rfl hsize rfl rfl (rest := rest) rfl
    (by rw [hb]; exact d4) (by rw [hb]; exact d7) hout hRframes (by simp only [List.map_cons, List.sum_cons, hcat]; omega) hlocks
  obtain ⟨f1, f2⟩ := vx_frame hsame
  rw [hhp] at f1 f2
  have hWs : s.WarmedH U.vm := State.WarmedH.trans hW0 hW
  have hcl : s.vm.findClass cls = some ce.cls := by
    have h9 := hO.cls
    rw [hvm] at h9
    exact h9
  have hall : s.sameButNew ({ U with vm := s.vm } : State) locs mc ms := by
    subst hA
    obtain ⟨e1, e2⟩ := hsame
    rw [State.setFrames_setFrames] at e1
    have h2 : (T.setVm s.vm).sameButNew ({ U with vm := s.vm } : State) [] (0 + 1) (0 + 6) := ⟨e1, e2⟩
    have h3 := X.same.trans h2
    rw [List.append_nil] at h3
    exact h3.mono hc hs
  refine ⟨U, ?_, .threw T.heap.size, hrun, hend, Or.inr ⟨T.heap.size, rfl, cls, ce, locs, hx U hWs.alike f1 (fun q hq => f2 q hq (fun z hz => nomatch hz)), hce, hO.vm, hcl, hWs, hall, hf⟩⟩
  refine st1 _ ?_
  show Steps p.tables e below (T1.setTop { method := m, pc := pc + 3, locals := ls, stack := .ref T.heap.size :: rest, locked := none }) _
  jvm_step X₁.here [X₁.here.top, hexec, d3', Value.category]
  exact hsteps
/-- 'throw new E("text")': new; dup; ldc; invokespecial; athrow -/
theorem vx_throwS {cc : ByteArray} {pc : Nat} (hexec : p.tables.exec = Jvm.exec) (hb : c.code = cc) (hl : l.stackTraces = false) {own cls text : String} {names : List String} {ik is ic mc ms sa : Nat} {A : Nat → Prop}
    (hown : s.vm.findClass own = some m.cls) (hcls : Bundle.fit cls = true) (hnames : ∀ n ∈ names, Bundle.fit n = true)
    (hk : (Cond.classLink own ik cls).before args s = true) (hini : (Cond.initialized cls).before args s = true) (hstr : vk_R own is text sa s) (hat : ∀ w ∈ vx_atS own ic cls names, w.before args s = true)
    (hgood : ∀ w ∈ Cond.classLink own ik cls :: Cond.initialized cls :: vx_atS own ic cls names, vx_ot w = true)
    (hU : vx_Zq Bundle.tN "UNASSIGNED_STACK" Bundle.steD A s s.heap) (hN : vx_Zq Bundle.tN "SUPPRESSED_SENTINEL" Bundle.listD A s s.heap) (hS : va_S A s.heap H locs) (hsize : ls.size = c.maxLocals)
    (d0 : decode cc pc = .ok (.new ik, 3)) (d3 : decode cc (pc + 3) = .ok (.dup, 1)) (d4 : decode cc (pc + 4) = .ok (.ldc is, 2)) (d6 : decode cc (pc + 6) = .ok (.invokespecial ic, 3)) (d9 : decode cc (pc + 9) = .ok (.athrow, 1))
    (hout : ∀ x ∈ c.exceptionTable.toList, covers x (pc + 9) = false)
    (hRframes : names.length + 3 < R.frames) (hRlocals : (rest.map fun v => v.category).sum + (13 * (names.length + 1) + 43) ≤ R.locals) (hRcells : cells + 1 ≤ R.cells) (hRslots : slots + 6 ≤ R.slots) (hlocks : meth.locks = false)
    (hx : ∀ t : State, s.vm.Alike t.vm → H.size ≤ t.heap.size → (∀ q : Nat, q < H.size → t.heap[q]? = H[q]?) → XC cls s t)
    (hf : ∀ z ∈ locs, free z.base) (hc : cells + 1 ≤ mc) (hs : slots + 6 ≤ ms) :
    W p l e R s m args below meth c H locs cells slots (vx_MQ below Qc XC args s mc ms free) (F0 m pc ls rest) := by
  intro T hT X
  have htr : e.platform.stackTraces = false := (show e.platform.stackTraces = l.stackTraces by rw [X.admits.platform]).trans hl
  have Y := vx_rebase X (R' := { frames := R.frames, locals := R.locals, cells := 1, slots := 6 }) (Nat.le_refl _) (Nat.le_refl _) hRcells hRslots
  obtain ⟨s', hA⟩ : ∃ z, z = (T.setVm s.vm).setFrames (.invoking m args :: below) := ⟨_, rfl⟩
  rw [← hA] at Y
  have hvm : s'.vm = s.vm := by rw [hA]; rfl
  have hhp : s'.heap = H := by rw [hA]; exact hT
  have hW0 : s.WarmedH s'.vm := by rw [hvm]; exact State.WarmedH.refl s
  have hat' : ∀ w ∈ vx_atS own ic cls names, w.before args s' = true := fun w hw => vx_ot_at hW0 hvm.symm (hgood w (List.mem_cons_of_mem _ (List.mem_cons_of_mem _ hw))) (hat w hw)
  have hk' : (Cond.classLink own ik cls).before args s' = true := vx_ot_at hW0 hvm.symm (hgood _ List.mem_cons_self) hk
  have hini' : (Cond.initialized cls).before args s' = true := vx_ot_at hW0 hvm.symm (hgood _ (List.mem_cons_of_mem _ List.mem_cons_self)) hini
  have hU' : vx_Zq Bundle.tN "UNASSIGNED_STACK" Bundle.steD A s' s'.heap := by rw [hhp]; exact vx_Zq.moved hW0.alike (hU.kept hS.2.1)
  have hN' : vx_Zq Bundle.tN "SUPPRESSED_SENTINEL" Bundle.listD A s' s'.heap := by rw [hhp]; exact vx_Zq.moved hW0.alike (hN.kept hS.2.1)
  have h : ∀ w ∈ Bundle.ownAtoms own ic cls names, w.before args s' = true := vx_own hat' (vx_isRefq hU'.1) (vx_isRefq hN'.1) hU'.2.word hN'.2.word
  have hown' : s'.vm.findClass own = some m.cls := by rw [hvm]; exact hown
  have hins : (Cond.instantiable cls 6).before args s' = true := h _ (by simp [Bundle.ownAtoms])
  obtain ⟨vm₁, cX, kX, hfX, hkX, -, -, X₁, st1⟩ := Y.newCold hexec (own := own) (C := cls) (index := ik) (n := 6) hown' hk' hins hini'
    (g := F0 m pc ls rest) rfl (by rw [hb]; exact d0) (Nat.le_refl _) (Nat.le_refl _)
  generalize hT1 : (T.setVm vm₁).pushCell { cls := cX, slots := kX.instanceTypes.map defaultValue, vm := .none } = T1 at X₁ st1
  have hcat : (Value.ref T.heap.size).category = 1 := rfl
  have hcellA : T1.heap[T.heap.size]? = some (freshCell cX kX) := by rw [← hT1]; exact State.heap_pushCell_size _ _
  have d3' : decode c.code (pc + 3) = .ok (.dup, 1) := by rw [hb]; exact d3
  have d4' : decode c.code (pc + 4) = .ok (.ldc is, 2) := by rw [hb]; exact d4
  have hstr' : vk_R own is text sa s' := vk_R.warm hW0 hstr
  obtain ⟨U, hsteps, hrun, hend, hW, hsame, ce, hce, hO⟩ := X₁.ctorThrowS hexec htr (own := own) (cls := cls) (names := names) (ic := ic) hown' hcls hnames h (fun x hx => nomatch hx) hfX hkX hcellA (by rw [hhp, hT]; exact Nat.le_refl _) (msg := .ref sa) rfl
    (g := { method := m, pc := pc + 6, locals := ls, stack := .ref sa :: .ref T.heap.size :: .ref T.heap.size :: rest, locked := none }) rfl hsize rfl rfl (rest := rest) rfl
    (by rw [hb]; exact d6) (by rw [hb]; exact d9) hout hRframes (by simp only [List.map_cons, List.sum_cons, hcat]; omega) hlocks
  obtain ⟨f1, f2⟩ := vx_frame hsame
  rw [hhp] at f1 f2
  have hWs : s.WarmedH U.vm := State.WarmedH.trans hW0 hW
  have hcl : s.vm.findClass cls = some ce.cls := by
    have h9 := hO.cls
    rw [hvm] at h9
    exact h9
  have hall : s.sameButNew ({ U with vm := s.vm } : State) locs mc ms := by
    subst hA
    obtain ⟨e1, e2⟩ := hsame
    rw [State.setFrames_setFrames] at e1
    have h2 : (T.setVm s.vm).sameButNew ({ U with vm := s.vm } : State) [] (0 + 1) (0 + 6) := ⟨e1, e2⟩
    have h3 := X.same.trans h2
    rw [List.append_nil] at h3
    exact h3.mono hc hs
  refine ⟨U, ?_, .threw T.heap.size, hrun, hend, Or.inr ⟨T.heap.size, rfl, cls, ce, locs, hx U hWs.alike f1 (fun q hq => f2 q hq (fun z hz => nomatch hz)), hce, hO.vm, hcl, hWs, hall, hf⟩⟩
  refine st1 _ ?_
  show Steps p.tables e below (T1.setTop { method := m, pc := pc + 3, locals := ls, stack := .ref T.heap.size :: rest, locked := none }) _
  jvm_step X₁.here [X₁.here.top, hexec, d3', Value.category]
  exact X₁.ldcString hexec (own := own) (text := text) (index := is) (a := sa) hown' hstr'.1 hstr'.2
    (g := { method := m, pc := pc + 4, locals := ls, stack := .ref T.heap.size :: .ref T.heap.size :: rest, locked := none }) rfl d4' _ hsteps
/-- 'throw new E("text")', the text by a wide index -/
theorem vx_throwSW {cc : ByteArray} {pc : Nat} (hexec : p.tables.exec = Jvm.exec) (hb : c.code = cc) (hl : l.stackTraces = false) {own cls text : String} {names : List String} {ik is ic mc ms sa : Nat} {A : Nat → Prop}
    (hown : s.vm.findClass own = some m.cls) (hcls : Bundle.fit cls = true) (hnames : ∀ n ∈ names, Bundle.fit n = true)
    (hk : (Cond.classLink own ik cls).before args s = true) (hini : (Cond.initialized cls).before args s = true) (hstr : vk_R own is text sa s) (hat : ∀ w ∈ vx_atS own ic cls names, w.before args s = true)
    (hgood : ∀ w ∈ Cond.classLink own ik cls :: Cond.initialized cls :: vx_atS own ic cls names, vx_ot w = true)
    (hU : vx_Zq Bundle.tN "UNASSIGNED_STACK" Bundle.steD A s s.heap) (hN : vx_Zq Bundle.tN "SUPPRESSED_SENTINEL" Bundle.listD A s s.heap) (hS : va_S A s.heap H locs) (hsize : ls.size = c.maxLocals)
    (d0 : decode cc pc = .ok (.new ik, 3)) (d3 : decode cc (pc + 3) = .ok (.dup, 1)) (d4 : decode cc (pc + 4) = .ok (.ldc_w is, 3)) (d7 : decode cc (pc + 7) = .ok (.invokespecial ic, 3)) (d10 : decode cc (pc + 10) = .ok (.athrow, 1))
    (hout : ∀ x ∈ c.exceptionTable.toList, covers x (pc + 10) = false)
    (hRframes : names.length + 3 < R.frames) (hRlocals : (rest.map fun v => v.category).sum + (13 * (names.length + 1) + 43) ≤ R.locals) (hRcells : cells + 1 ≤ R.cells) (hRslots : slots + 6 ≤ R.slots) (hlocks : meth.locks = false)
    (hx : ∀ t : State, s.vm.Alike t.vm → H.size ≤ t.heap.size → (∀ q : Nat, q < H.size → t.heap[q]? = H[q]?) → XC cls s t)
    (hf : ∀ z ∈ locs, free z.base) (hc : cells + 1 ≤ mc) (hs : slots + 6 ≤ ms) :
    W p l e R s m args below meth c H locs cells slots (vx_MQ below Qc XC args s mc ms free) (F0 m pc ls rest) := by
  intro T hT X
  have htr : e.platform.stackTraces = false := (show e.platform.stackTraces = l.stackTraces by rw [X.admits.platform]).trans hl
  have Y := vx_rebase X (R' := { frames := R.frames, locals := R.locals, cells := 1, slots := 6 }) (Nat.le_refl _) (Nat.le_refl _) hRcells hRslots
  obtain ⟨s', hA⟩ : ∃ z, z = (T.setVm s.vm).setFrames (.invoking m args :: below) := ⟨_, rfl⟩
  rw [← hA] at Y
  have hvm : s'.vm = s.vm := by rw [hA]; rfl
  have hhp : s'.heap = H := by rw [hA]; exact hT
  have hW0 : s.WarmedH s'.vm := by rw [hvm]; exact State.WarmedH.refl s
  have hat' : ∀ w ∈ vx_atS own ic cls names, w.before args s' = true := fun w hw => vx_ot_at hW0 hvm.symm (hgood w (List.mem_cons_of_mem _ (List.mem_cons_of_mem _ hw))) (hat w hw)
  have hk' : (Cond.classLink own ik cls).before args s' = true := vx_ot_at hW0 hvm.symm (hgood _ List.mem_cons_self) hk
  have hini' : (Cond.initialized cls).before args s' = true := vx_ot_at hW0 hvm.symm (hgood _ (List.mem_cons_of_mem _ List.mem_cons_self)) hini
  have hU' : vx_Zq Bundle.tN "UNASSIGNED_STACK" Bundle.steD A s' s'.heap := by rw [hhp]; exact vx_Zq.moved hW0.alike (hU.kept hS.2.1)
  have hN' : vx_Zq Bundle.tN "SUPPRESSED_SENTINEL" Bundle.listD A s' s'.heap := by rw [hhp]; exact vx_Zq.moved hW0.alike (hN.kept hS.2.1)
  have h : ∀ w ∈ Bundle.ownAtoms own ic cls names, w.before args s' = true := vx_own hat' (vx_isRefq hU'.1) (vx_isRefq hN'.1) hU'.2.word hN'.2.word
  have hown' : s'.vm.findClass own = some m.cls := by rw [hvm]; exact hown
  have hins : (Cond.instantiable cls 6).before args s' = true := h _ (by simp [Bundle.ownAtoms])
  obtain ⟨vm₁, cX, kX, hfX, hkX, -, -, X₁, st1⟩ := Y.newCold hexec (own := own) (C := cls) (index := ik) (n := 6) hown' hk' hins hini'
    (g := F0 m pc ls rest) rfl (by rw [hb]; exact d0) (Nat.le_refl _) (Nat.le_refl _)
  generalize hT1 : (T.setVm vm₁).pushCell { cls := cX, slots := kX.instanceTypes.map defaultValue, vm := .none } = T1 at X₁ st1
  have hcat : (Value.ref T.heap.size).category = 1 := rfl
  have hcellA : T1.heap[T.heap.size]? = some (freshCell cX kX) := by rw [← hT1]; exact State.heap_pushCell_size _ _
  have d3' : decode c.code (pc + 3) = .ok (.dup, 1) := by rw [hb]; exact d3
  have d4' : decode c.code (pc + 4) = .ok (.ldc_w is, 3) := by rw [hb]; exact d4
  have hstr' : vk_R own is text sa s' := vk_R.warm hW0 hstr
  obtain ⟨U, hsteps, hrun, hend, hW, hsame, ce, hce, hO⟩ := X₁.ctorThrowS hexec htr (own := own) (cls := cls) (names := names) (ic := ic) hown' hcls hnames h (fun x hx => nomatch hx) hfX hkX hcellA (by rw [hhp, hT]; exact Nat.le_refl _) (msg := .ref sa) rfl
    (g := { method := m, pc := pc + 7, locals := ls, stack := .ref sa :: .ref T.heap.size :: .ref T.heap.size :: rest, locked := none }) rfl hsize rfl rfl (rest := rest) rfl
    (by rw [hb]; exact d7) (by rw [hb]; exact d10) hout hRframes (by simp only [List.map_cons, List.sum_cons, hcat]; omega) hlocks
  obtain ⟨f1, f2⟩ := vx_frame hsame
  rw [hhp] at f1 f2
  have hWs : s.WarmedH U.vm := State.WarmedH.trans hW0 hW
  have hcl : s.vm.findClass cls = some ce.cls := by
    have h9 := hO.cls
    rw [hvm] at h9
    exact h9
  have hall : s.sameButNew ({ U with vm := s.vm } : State) locs mc ms := by
    subst hA
    obtain ⟨e1, e2⟩ := hsame
    rw [State.setFrames_setFrames] at e1
    have h2 : (T.setVm s.vm).sameButNew ({ U with vm := s.vm } : State) [] (0 + 1) (0 + 6) := ⟨e1, e2⟩
    have h3 := X.same.trans h2
    rw [List.append_nil] at h3
    exact h3.mono hc hs
  refine ⟨U, ?_, .threw T.heap.size, hrun, hend, Or.inr ⟨T.heap.size, rfl, cls, ce, locs, hx U hWs.alike f1 (fun q hq => f2 q hq (fun z hz => nomatch hz)), hce, hO.vm, hcl, hWs, hall, hf⟩⟩
  refine st1 _ ?_
  show Steps p.tables e below (T1.setTop { method := m, pc := pc + 3, locals := ls, stack := .ref T.heap.size :: rest, locked := none }) _
  jvm_step X₁.here [X₁.here.top, hexec, d3', Value.category]
  exact X₁.ldcStringW hexec (own := own) (text := text) (index := is) (a := sa) hown' hstr'.1 hstr'.2
    (g := { method := m, pc := pc + 4, locals := ls, stack := .ref T.heap.size :: .ref T.heap.size :: rest, locked := none }) rfl d4' _ hsteps
end Ends
section Bodies
variable {l : Launch}
theorem vx_ofW {y : MethodName} {ws ws' : List Cond} {rm : Room} {Pc : Array Value → State → Prop} {Qc : Array Value → State → Outcome → State → Prop} {XC : String → State → State → Prop} {mc ms : Nat} {free : Addr → Prop} {cc : ByteArray} {maxL : Nat} {ret : Option FieldType}
    (hy : plainName y.cls = true) (hw : ws = Cond.code y cc maxL ret :: ws')
    (body : ∀ p e s m args below meth c s₁, BodyLoose p l y (headSpec ws rm) cc maxL ret e s m args below meth c s₁ → c.maxLocals = maxL → (∀ x ∈ c.exceptionTable.toList, False) → Pc args s →
      W p l e (headSpec ws rm).room s m args below meth c s.heap [] 0 0 (vx_MQ below Qc XC args s mc ms free) (entryFrame m args maxL)) : vx_Met l y ws rm Pc Qc XC mc ms free := by
  refine MetFree.of_bodyS (code := cc) (maxLocals := maxL) (ret := ret) hy ?_ ?_
  · intro args s m h hn
    obtain ⟨meth, c, h1, h2, h3, h4, h5, h6, -, -⟩ := Cond.code_spec hn (atoms_spec (ws := ws) h _ (by rw [hw]; exact List.mem_cons_self))
    exact ⟨meth, c, h1, h2, h3, h4, h5, h6⟩
  · intro p e s m args below meth c s₁ B hml hP _
    have hh0 : s₁.heap = s.heap := by rw [B.state]; rfl
    have ht : ∀ x ∈ c.exceptionTable.toList, False := by
      obtain ⟨meth9, c9, h1, h2, -, -, -, -, h7, -⟩ := Cond.code_spec B.named (atoms_spec (ws := ws) B.pre _ (by rw [hw]; exact List.mem_cons_self))
      cases Option.some.inj (h1.symm.trans B.method)
      cases Option.some.inj (h2.symm.trans (Stand.of_body B).code)
      intro x hx
      rw [Array.isEmpty_iff.mp h7] at hx
      cases hx
    obtain ⟨t, a1, o, b1, b2, b3⟩ := body p e s m args below meth c s₁ B hml ht hP s₁ hh0 (Stand.of_body B)
    exact ⟨t, o, a1, b1, b2, b3⟩
/-- the table of a body with handlers -/
theorem vx_table {p : Program} {x y : MethodName} {S : Spec} {cc bytes : ByteArray} {maxL maxL' : Nat} {ret ret' : Option FieldType} {e : Env} {s s₁ : State} {m : MethodId} {args : Array Value} {below : List Frame} {meth : Method} {c : Code} {hh : List (Nat × Nat × Nat × Nat)}
    (B : BodyLoose p l y S cc maxL ret e s m args below meth c s₁) (h : (Cond.codeWith y bytes maxL' ret' hh).before args s = true) : c.exceptionTable.toList = tableOf hh := by
  obtain ⟨m9, meth9, c9, hn9, h1, h2, -, -, h6, -⟩ := Cond.codeWith_spec h
  cases Option.some.inj (hn9.symm.trans B.named)
  cases Option.some.inj (h1.symm.trans B.method)
  cases Option.some.inj (h2.symm.trans (Stand.of_body B).code)
  rw [← h6, table_eq]
end Bodies
end VXA
/-! ===== END ===== -/
/-! ===== BEGIN a static call of a method with an exception table ===== -/
section VXS
variable {p : Program} {l : Launch} {e : Env} {R : Room} {s : State} {m : MethodId} {args : Array Value} {below : List Frame} {meth : Method} {c : Code} {T : State} {H : Heap} {locs : List Loc} {cells slots : Nat}
abbrev vx_CSW (R : Room) (s : State) (args : Array Value) (own : String) (index : Nat) (y : MethodName) (bytes : ByteArray) (maxL : Nat) (ret : Option FieldType) (hh : List (Nat × Nat × Nat × Nat)) (ws : List Cond) (rm : Room) (mc ms n : Nat) : Prop :=
  (rm.cells = mc ∧ rm.slots = ms ∧ rm.frames + 1 ≤ R.frames ∧ 8 + (maxL + 11) + rm.locals ≤ R.locals ∧ (∀ w ∈ ws, ∀ (a' : Array Value) (U : State), s.WarmedH U.vm → w.before a' U = true) ∧ Cond.codeWith y bytes maxL ret hh ∈ ws) ∧
  (Cond.codeWith y bytes maxL ret hh).before args s = true ∧ (Cond.initialized y.cls).before args s = true ∧ (y.cls ≠ "java/lang/invoke/MethodHandle" ∧ y.cls ≠ "java/lang/invoke/VarHandle") ∧
  (∀ sig, parseMethodDescriptor y.desc = some sig → n = sig.parameters.length) ∧ (Cond.methodLink own index y).before args s = true ∧ (Cond.static y).before args s = true
theorem vx_cwSW {own : String} {index maxL mc ms : Nat} {y : MethodName} {bytes : ByteArray} {ret : Option FieldType} {hh : List (Nat × Nat × Nat × Nat)} {Ts ws ws' : List Cond} {rm : Room} (n : Nat) (ht : ∀ w ∈ Ts, w.before args s = true) (hT : GoodIn Ts (va_wsS own index y ws)) (hw : ws = Cond.codeWith y bytes maxL ret hh :: ws') (hrc : rm.cells = mc) (hrs : rm.slots = ms)
    (hd : y.cls ≠ "java/lang/invoke/MethodHandle" ∧ y.cls ≠ "java/lang/invoke/VarHandle" ∧ (parseMethodDescriptor y.desc).map (fun d => d.parameters.length) = some n) (hR : rm.frames + 1 ≤ R.frames ∧ 8 + (maxL + 11) + rm.locals ≤ R.locals) :
    vx_CSW R s args own index y bytes maxL ret hh ws rm mc ms n := by
  have ok : ∀ w ∈ va_wsS own index y ws, w.before args s = true := fun w h => ht w (hT w h).1
  have hG : GoodIn Ts ws := fun w h => hT w (by unfold va_wsS; exact List.mem_append_right _ h)
  have hc : Cond.codeWith y bytes maxL ret hh ∈ ws := by rw [hw]; exact List.mem_cons_self
  refine ⟨⟨hrc, hrs, hR.1, hR.2, pay_in ht hG, hc⟩, ht _ (hG _ hc).1, ok _ (by simp [va_wsS]), ⟨hd.1, hd.2.1⟩, fun sig h => ?_, ok _ (by simp [va_wsS]), ok _ (by simp [va_wsS])⟩
  have h2 := hd.2.2
  rw [h] at h2
  exact (Option.some.inj h2).symm
theorem vx_callSW (X : Stand p l e R s m args below meth c T locs cells slots) (hexec : p.tables.exec = Jvm.exec) {own : String} {index : Nat} {y : MethodName} {bytes : ByteArray} {maxL : Nat} {ret : Option FieldType} {hh : List (Nat × Nat × Nat × Nat)}
    (hown : s.vm.findClass own = some m.cls) (hlink : (Cond.methodLink own index y).before args s = true) (hstat : (Cond.static y).before args s = true) (hinit : (Cond.initialized y.cls).before args s = true)
    (hcode : (Cond.codeWith y bytes maxL ret hh).before args s = true) (hy : y.cls ≠ "java/lang/invoke/MethodHandle" ∧ y.cls ≠ "java/lang/invoke/VarHandle")
    {W9 : Nat} {Pre : Pt → Array Value → Prop} {Post : Pt → Array Value → Option Value → Pt → Prop} (hK : Back l R p e below s args y 3 W9 Pre Post)
    {g : JFrame} (hg : g.method = m) (hsize : g.locals.size = c.maxLocals) {argsL rest : List Value} (hlen : ∀ sig, parseMethodDescriptor y.desc = some sig → argsL.length = sig.parameters.length)
    (hstack : g.stack = argsL.reverse ++ rest) (hW : 2 * g.monitorRoom + (rest.map fun v => v.category).sum ≤ W9) (hdg : decode c.code g.pc = .ok (.invokestatic index, 3))
    (hpre : ∀ vm₁, s.WarmedH vm₁ → Pre ⟨T.setVm vm₁, locs, cells, slots⟩ argsL.toArray) :
    ∃ (v : Option Value) (vm₁ : Vm) (B : Pt), s.WarmedH vm₁ ∧ Stand p l e R s m args below meth c B.U B.locs B.cells B.slots ∧ Post ⟨T.setVm vm₁, locs, cells, slots⟩ argsL.toArray v B ∧
      ∀ target, Steps p.tables e below (B.U.setTop { g with pc := g.pc + 3, stack := v.toList ++ rest }) target → Steps p.tables e below (T.setTop g) target := by
  obtain ⟨mk, methM, cM, hnamed, hmethM, -, -, -, -, -, -, hsigM⟩ := Cond.codeWith_spec hcode
  have hstatic : methM.isStatic = true := Cond.static_spec hnamed hmethM hstat
  obtain ⟨kP, hkP, -⟩ := className_of_methodNamed hnamed
  have hinitP : kP.init = .initialized := Cond.initialized_spec (findClass_of_methodNamed hnamed) hkP hinit
  obtain ⟨vm₁, X₁, hstep₁⟩ := X.invokestatic hexec hown hlink hnamed hmethM hstatic hkP hinitP hy (g := g) hg (argsL := argsL) (rest := rest) (hlen _ hsigM) hstack hdg
  obtain ⟨v, B, X', hpost, hsteps⟩ := hK m meth c ⟨T.setVm vm₁, locs, cells, slots⟩ { g with stack := rest } (.invokestatic index) mk argsL.toArray X₁ hg hsize hdg hW (X₁.named hnamed) (hpre vm₁ X₁.warmed)
  exact ⟨v, vm₁, B, X₁.warmed, X', hpost, fun target h => hstep₁ _ fun acts => by rw [doInvoke_state]; exact hsteps.trans h⟩
theorem vx_runSW {y : MethodName} {bytes cc : ByteArray} {maxL nL mc ms n index : Nat} {ret : Option FieldType} {hh : List (Nat × Nat × Nat × Nat)} {ws : List Cond} {rm : Room} {Pc : Array Value → State → Prop} {Qc : Array Value → State → Outcome → State → Prop} {free : Addr → Prop} {Ts : List Cond} {own : String} {As rest : List Value} {g : JFrame}
    (S : CallFix p m c cc nL s args Ts own) (hM : Met l y ws rm Pc Qc mc ms free) (cw : vx_CSW R s args own index y bytes maxL ret hh ws rm mc ms n) (hp : PreS s H Pc As)
    (hg : g.method = m) (hn : As.length = n) (hsize : g.locals.size = nL) (hstack : g.stack = As.reverse ++ rest) (hW : 2 * g.monitorRoom + (rest.map fun v => v.category).sum ≤ 8) (hdg : decode cc g.pc = .ok (.invokestatic index, 3)) (hf : cells + mc ≤ R.cells ∧ slots + ms ≤ R.slots) :
    va_Run p l e R s m args below meth c H locs cells slots mc ms g rest (Qc As.toArray) (free) := by
  obtain ⟨⟨hrc, hrs, hfr, hlo, hws, hcw⟩, hcode, hini, hy, hlen, hl, hstt⟩ := cw
  have hK : Back l R p e below s args y 3 8 (PreOf R mc ms Pc) (PostOf Qc mc ms free) := va_backW (hh := hh) (bytes := bytes) (maxL := maxL) (ret := ret) hM hp.1 hrc hrs hfr hlo hws hcw (fun a' U hW => word_at hW (Or.inl (by first | rfl | simp [Cond.onTables, Cond.keeps, Cond.steady])) hini)
  obtain ⟨hx, hb, hml, ho, -⟩ := S
  intro T hT X
  obtain ⟨v, vm₁, ⟨U', l2, c2, s2⟩, hW₁, X', ⟨g', mk, t, L, e1, e2, hq, h1, hL, h2, h3⟩, st⟩ := vx_callSW X hx (hh := hh) (bytes := bytes) (maxL := maxL) (ret := ret) ho hl hstt hini hcode hy hK hg (hsize.trans hml.symm) (argsL := As) (rest := rest) (fun sig h => hn.trans (hlen sig h)) hstack hW (by rw [hb]; exact hdg)
    (fun vm₁ hW₁ => ⟨hf.1, hf.2, hp.2 (T.setVm vm₁) hT hW₁⟩)
  dsimp only [Pt.U, Pt.locs, Pt.cells, Pt.slots] at X' e1 e2 h1 h2 h3 st
  subst h1; subst h2; subst h3
  exact ⟨v, (T.setVm vm₁).calling g' mk As.toArray, t, U', L, hT, X', hL, e1, e2, hq, st⟩
/-- a thing of a world lies in the heap -/
theorem vx_lt {D : va_G} {cl : List vw_C} {ws : va_W} {H1 : Heap} (h : va_P D cl ws H1) {k : Nat} {q : Nat × va_E} (hk : ws[k]? = some q) : q.1 < H1.size := (h k q hk).lt
end VXS
/-! ===== END ===== -/
/-! ===== BEGIN methods with a table of their own: called by a name, returning or throwing ===== -/
section VXH
/-! vx_backW, vx_callVX, vx_callSX, vx_callVW, vx_runVW, vx_runVX, vx_runSX, vx_ofWH follow the same proofs as their sisters above (Free/Laws.lean, Shelf42/LK1.lean); vx_outP calls Shelf42/NT130.lean (outThrough). -/
section
variable {l : Launch} {R : Room} {p : Program} {e : Env} {below : List Frame} {s : State} {sargs : Array Value} {y : MethodName} {len W9 : Nat}
theorem vx_backW {ws : List Cond} {rm : Room} {Pc : Array Value → State → Prop} {Qc : Array Value → State → Outcome → State → Prop} {XC : String → State → State → Prop} {mc ms : Nat} {free : Addr → Prop} {bytes : ByteArray} {maxL : Nat} {ret : Option FieldType} {hh : List (Nat × Nat × Nat × Nat)}
    (hM : vx_Met l y ws rm Pc Qc XC mc ms free) (hblind : FrameBlind Pc) (hrc : rm.cells = mc) (hrs : rm.slots = ms)
    (hframes : rm.frames + 1 ≤ R.frames) (hlocals : W9 + (maxL + 11) + rm.locals ≤ R.locals)
    (hws : ∀ w ∈ ws, ∀ a' U, s.WarmedH U.vm → w.before a' U = true) (hcode : Cond.codeWith y bytes maxL ret hh ∈ ws) (hinit : ∀ a' U, s.WarmedH U.vm → (Cond.initialized y.cls).before a' U = true) :
    vx_Back l R p e below s sargs y len W9 (PreOf R mc ms Pc) (PostOf Qc mc ms free) (vx_Post XC mc ms free) := by
  intro m meth c A g ig mk a X hg hsize hdg hW hn hp
  have h1 : (headSpec ws rm).pre.before a A.U = true := atoms_intro fun w hw => hws w hw _ _ X.warmed
  have h2 : (Cond.codeWith y bytes maxL ret hh).before a A.U = true := hws _ hcode _ _ X.warmed
  have h3 : (Cond.initialized y.cls).before a A.U = true := hinit _ _ X.warmed
  have h4 : A.cells + (headSpec ws rm).room.cells ≤ R.cells := by rw [show (headSpec ws rm).room.cells = mc from hrc]; exact hp.1
  have h5 : A.slots + (headSpec ws rm).room.slots ≤ R.slots := by rw [show (headSpec ws rm).room.slots = ms from hrs]; exact hp.2.1
  have hPc : Pc a (A.U.calling g mk a) := hblind _ _ _ _ hp.2.2
  obtain ⟨U, Ls, c0, s0⟩ := A
  dsimp only [Pt.U, Pt.locs, Pt.cells, Pt.slots] at h1 h2 h3 h4 h5 X hn hPc ⊢
  obtain ⟨m9, methY, cY, hn9, hmY, hcY, -, hlY, -⟩ := Cond.codeWith_spec h2
  cases Option.some.inj (hn9.symm.trans hn)
  obtain ⟨kY, hkY, -⟩ := className_of_methodNamed hn
  have hinitY : kY.init = .initialized := Cond.initialized_spec (findClass_of_methodNamed hn) hkY h3
  have h : At U g.method c below := by rw [hg]; exact X.here
  have hlocals9 : W9 + (maxL + 11) + (headSpec ws rm).room.locals ≤ R.locals := hlocals
  have happ : (headSpec ws rm).appliesLoose y e.platform (U.calling g mk a) = true :=
    Spec.appliesLoose_calling (g := g) h hdg hn hkY hinitY
      (X.room_calling (g := g) (R' := (headSpec ws rm).room) hsize hmY hcY hframes (by rw [hlY]; omega) h4 h5) h1
  obtain ⟨mid, hmid⟩ := h.above
  have hfr : (U.setTop g).frames = (.java g :: mid) ++ below := by rw [State.frames_setTop' g h.top, hmid]; rfl
  obtain ⟨o, s₂, hsteps, -, hend, hq⟩ := Steps.callFree hM p X.admits X.cas X.clock (acts := []) hfr happ hPc trivial
  have hq' : vx_Q Qc XC mc ms free a (U.calling g mk a) o s₂ := hq
  rw [State.frames_setTop' g h.top] at hend
  obtain ⟨g₀, hg0⟩ := Option.isSome_iff_exists.mp h.top
  obtain ⟨r, hr⟩ := State.topJava?_eq_some.mp hg0
  have hr' : (({ U with heap := s₂.heap, slotsUsed := s₂.slotsUsed } : State).setVm s₂.vm).frames = .java g₀ :: r := hr
  rcases hq' with ⟨hqc, L, hfe, hL⟩ | ⟨q, rfl, E, ce, L, hx, hce, hcv, hcl, hW₂, hsm, hL⟩
  · obtain ⟨⟨v, rfl⟩, hW₂, e2, q2, q3, q4, q5, q6⟩ := id hfe
    have e3 : s₂ = ({ (U.calling g mk a).setFrames s₂.frames with heap := s₂.heap, slotsUsed := s₂.slotsUsed } : State).setVm s₂.vm := by
      have : s₂ = ({ s₂ with vm := (U.calling g mk a).vm } : State).setVm s₂.vm := rfl
      rw [e2] at this
      exact this
    obtain ⟨c₂, i₂, len₂, hc₂, hd₂, hf₂⟩ := hend
    have hW' : U.WarmedH s₂.vm := hW₂
    have hcc : c₂ = c := by
      have h1 : s₂.code? g.method = U.code? g.method := by
        rw [State.code?_eq, State.code?_eq, hW'.alike.method?]
      exact Option.some.inj (hc₂.symm.trans (h1.trans h.code))
    subst hcc
    have hlen : len₂ = len := by rw [hdg] at hd₂; cases hd₂; rfl
    subst hlen
    have hs₂ : s₂ = (({ U with heap := s₂.heap, slotsUsed := s₂.slotsUsed } : State).setVm s₂.vm).setTop { g with pc := g.pc + len₂, stack := v.toList ++ g.stack } := by
      refine e3.trans ?_
      rw [hf₂, State.calling_eq h.top, State.setFrames_setFrames, State.setTop_of_frames _ hr', hr]
      rfl
    have hsame : U.sameButNew ({ U with heap := s₂.heap, slotsUsed := s₂.slotsUsed } : State) L mc ms := by
      refine ⟨?_, q2, q3, q4, q5, q6⟩
      obtain ⟨t, ht, -⟩ := State.frames_cons hr
      show ({ U with heap := s₂.heap, slotsUsed := s₂.slotsUsed } : State) = { U.setFrames U.frames with heap := s₂.heap, slotsUsed := s₂.slotsUsed }
      rw [State.setFrames_self ht]
    subst hg
    refine Or.inl ⟨v, ⟨(({ U with heap := s₂.heap, slotsUsed := s₂.slotsUsed } : State).setVm s₂.vm), Ls ++ L, c0 + mc, s0 + ms⟩,
      ⟨X.admits, X.cas, X.clock, X.frames, X.room, X.hears, X.method, X.code, (X.here.setHeapUsed s₂.heap s₂.slotsUsed).setVm hW'.alike, X.tail, State.WarmedH.trans X.warmed hW', X.limits, X.bytes, X.same.trans (hsame.setVm s.vm)⟩,
      ⟨g, mk, s₂, L, rfl, rfl, hqc, rfl, hL, rfl, rfl⟩, ?_⟩
    show Steps p.tables e below _ ((({ U with heap := s₂.heap, slotsUsed := s₂.slotsUsed } : State).setVm s₂.vm).setTop { g with pc := g.pc + len₂, stack := v.toList ++ g.stack })
    rw [← hs₂]
    exact hsteps
  · obtain ⟨e2, q2, q3, q4, q5, q6⟩ := id hsm
    have e3 : s₂ = ({ (U.calling g mk a).setFrames s₂.frames with heap := s₂.heap, slotsUsed := s₂.slotsUsed } : State).setVm s₂.vm := by
      have : s₂ = ({ s₂ with vm := (U.calling g mk a).vm } : State).setVm s₂.vm := rfl
      rw [e2] at this
      exact this
    have hf₂ : s₂.frames = .throwing q :: .java g :: U.frames.tail := hend
    have hW' : U.WarmedH s₂.vm := hW₂
    have hs₂ : s₂ = ((({ U with heap := s₂.heap, slotsUsed := s₂.slotsUsed } : State).setVm s₂.vm).setTop g).pushFrame (.throwing q) := by
      refine e3.trans ?_
      rw [hf₂, State.calling_eq h.top, State.setFrames_setFrames, State.pushFrame, State.frames_setTop _ hr', State.setTop_of_frames _ hr', State.setFrames_setFrames, hr]
      rfl
    have hsame : U.sameButNew ({ U with heap := s₂.heap, slotsUsed := s₂.slotsUsed } : State) L mc ms := by
      refine ⟨?_, q2, q3, q4, q5, q6⟩
      obtain ⟨t, ht, -⟩ := State.frames_cons hr
      show ({ U with heap := s₂.heap, slotsUsed := s₂.slotsUsed } : State) = { U.setFrames U.frames with heap := s₂.heap, slotsUsed := s₂.slotsUsed }
      rw [State.setFrames_self ht]
    subst hg
    refine Or.inr ⟨q, ⟨(({ U with heap := s₂.heap, slotsUsed := s₂.slotsUsed } : State).setVm s₂.vm), Ls ++ L, c0 + mc, s0 + ms⟩,
      ⟨X.admits, X.cas, X.clock, X.frames, X.room, X.hears, X.method, X.code, (X.here.setHeapUsed s₂.heap s₂.slotsUsed).setVm hW'.alike, X.tail, State.WarmedH.trans X.warmed hW', X.limits, X.bytes, X.same.trans (hsame.setVm s.vm)⟩,
      ⟨g, mk, s₂, L, E, ce, rfl, rfl, hx, hce, hcv, hcl, rfl, hL, rfl, rfl⟩, ?_⟩
    show Steps p.tables e below _ (((({ U with heap := s₂.heap, slotsUsed := s₂.slotsUsed } : State).setVm s₂.vm).setTop g).pushFrame (.throwing q))
    rw [← hs₂]
    exact hsteps
end
variable {p : Program} {l : Launch} {e : Env} {R : Room} {s : State} {m : MethodId} {args : Array Value} {below : List Frame} {meth : Method} {c : Code} {T : State} {H : Heap} {locs : List Loc} {cells slots : Nat}
theorem vx_callVX (X : Stand p l e R s m args below meth c T locs cells slots) (hexec : p.tables.exec = Jvm.exec) {own C : String} {index : Nat} {y : MethodName} {bytes : ByteArray} {maxL : Nat} {ret : Option FieldType} {hh : List (Nat × Nat × Nat × Nat)}
    (hown : s.vm.findClass own = some m.cls) (hlink : (Cond.methodLink own index y).before args s = true) (hinst : (Cond.instanceMethod y).before args s = true) (hsel : (Cond.selects C y y).before args s = true)
    (hcode : (Cond.codeWith y bytes maxL ret hh).before args s = true) (hy : y.cls ≠ "java/lang/invoke/MethodHandle" ∧ y.cls ≠ "java/lang/invoke/VarHandle")
    {W9 : Nat} {Pre : Pt → Array Value → Prop} {Post : Pt → Array Value → Option Value → Pt → Prop} {PostX : Pt → Array Value → Addr → Pt → Prop} (hK : vx_Back l R p e below s args y 3 W9 Pre Post PostX)
    {b : Addr} {cellB : Cell} (hcell : T.heap[b]? = some cellB) (hobj : cellB.vm.isStatics = false) (hcls : s.vm.findClass C = some cellB.cls)
    {g : JFrame} (hg : g.method = m) (hsize : g.locals.size = c.maxLocals) {argsL rest : List Value} (hlen : ∀ sig, parseMethodDescriptor y.desc = some sig → argsL.length = sig.parameters.length)
    (hstack : g.stack = argsL.reverse ++ .ref b :: rest) (hW : 2 * g.monitorRoom + (rest.map fun v => v.category).sum ≤ W9) (hdg : decode c.code g.pc = .ok (.invokevirtual index, 3))
    (hpre : ∀ vm₁, s.WarmedH vm₁ → Pre ⟨T.setVm vm₁, locs, cells, slots⟩ (Value.ref b :: argsL).toArray) :
    (∃ (v : Option Value) (vm₁ : Vm) (B : Pt), s.WarmedH vm₁ ∧ Stand p l e R s m args below meth c B.U B.locs B.cells B.slots ∧ Post ⟨T.setVm vm₁, locs, cells, slots⟩ (Value.ref b :: argsL).toArray v B ∧
      ∀ target, Steps p.tables e below (B.U.setTop { g with pc := g.pc + 3, stack := v.toList ++ rest }) target → Steps p.tables e below (T.setTop g) target) ∨
    (∃ (q : Addr) (vm₁ : Vm) (B : Pt), s.WarmedH vm₁ ∧ Stand p l e R s m args below meth c B.U B.locs B.cells B.slots ∧ PostX ⟨T.setVm vm₁, locs, cells, slots⟩ (Value.ref b :: argsL).toArray q B ∧
      Steps p.tables e below (T.setTop g) ((B.U.setTop { g with stack := rest }).pushFrame (.throwing q))) := by
  obtain ⟨mk, methM, hnamed, hmethM, hstM, habM⟩ := Cond.instanceMethod_spec hinst
  obtain ⟨m8, methM', cM, hn8, hmethM', -, -, -, -, -, -, hsigM⟩ := Cond.codeWith_spec hcode
  cases Option.some.inj (hn8.symm.trans hnamed)
  cases hmethM.symm.trans hmethM'
  obtain ⟨c2, r2, m2, q1, q2, q3, q4, kP, hkP, hkPi⟩ := Cond.selects_spec hsel
  cases hcls.symm.trans q1
  cases (State.methodFound?_of_named hnamed hy).symm.trans q2
  cases hnamed.symm.trans q3
  have hselP : selectMethod e.platform s.vm cellB.cls mk = .method mk := by rw [Launch.admits_selectMethod X.admits]; exact q4
  obtain ⟨vm₁, X₁, hstep₁⟩ := X.invokevirtual hexec hown hlink hnamed hmethM hstM hkP hkPi hy (a := b) (cell := cellB) hcell
    (fun z h => by rw [h] at hobj; cases hobj) hselP hmethM habM hkP hkPi (g := g) hg (argsL := argsL) (rest := rest) (hlen _ hsigM) hstack hdg
  rcases hK m meth c ⟨T.setVm vm₁, locs, cells, slots⟩ { g with stack := rest } (.invokevirtual index) mk (Value.ref b :: argsL).toArray X₁ hg hsize hdg hW (X₁.named hnamed) (hpre vm₁ X₁.warmed) with ⟨v, B, X', hpost, hsteps⟩ | ⟨q, B, X', hpost, hsteps⟩
  · exact Or.inl ⟨v, vm₁, B, X₁.warmed, X', hpost, fun target h => hstep₁ _ fun acts => by rw [doInvoke_state]; exact hsteps.trans h⟩
  · exact Or.inr ⟨q, vm₁, B, X₁.warmed, X', hpost, hstep₁ _ fun acts => by rw [doInvoke_state]; exact hsteps⟩
theorem vx_callSX (X : Stand p l e R s m args below meth c T locs cells slots) (hexec : p.tables.exec = Jvm.exec) {own : String} {index : Nat} {y : MethodName} {bytes : ByteArray} {maxL : Nat} {ret : Option FieldType} {hh : List (Nat × Nat × Nat × Nat)}
    (hown : s.vm.findClass own = some m.cls) (hlink : (Cond.methodLink own index y).before args s = true) (hstat : (Cond.static y).before args s = true) (hinit : (Cond.initialized y.cls).before args s = true)
    (hcode : (Cond.codeWith y bytes maxL ret hh).before args s = true) (hy : y.cls ≠ "java/lang/invoke/MethodHandle" ∧ y.cls ≠ "java/lang/invoke/VarHandle")
    {W9 : Nat} {Pre : Pt → Array Value → Prop} {Post : Pt → Array Value → Option Value → Pt → Prop} {PostX : Pt → Array Value → Addr → Pt → Prop} (hK : vx_Back l R p e below s args y 3 W9 Pre Post PostX)
    {g : JFrame} (hg : g.method = m) (hsize : g.locals.size = c.maxLocals) {argsL rest : List Value} (hlen : ∀ sig, parseMethodDescriptor y.desc = some sig → argsL.length = sig.parameters.length)
    (hstack : g.stack = argsL.reverse ++ rest) (hW : 2 * g.monitorRoom + (rest.map fun v => v.category).sum ≤ W9) (hdg : decode c.code g.pc = .ok (.invokestatic index, 3))
    (hpre : ∀ vm₁, s.WarmedH vm₁ → Pre ⟨T.setVm vm₁, locs, cells, slots⟩ argsL.toArray) :
    (∃ (v : Option Value) (vm₁ : Vm) (B : Pt), s.WarmedH vm₁ ∧ Stand p l e R s m args below meth c B.U B.locs B.cells B.slots ∧ Post ⟨T.setVm vm₁, locs, cells, slots⟩ argsL.toArray v B ∧
      ∀ target, Steps p.tables e below (B.U.setTop { g with pc := g.pc + 3, stack := v.toList ++ rest }) target → Steps p.tables e below (T.setTop g) target) ∨
    (∃ (q : Addr) (vm₁ : Vm) (B : Pt), s.WarmedH vm₁ ∧ Stand p l e R s m args below meth c B.U B.locs B.cells B.slots ∧ PostX ⟨T.setVm vm₁, locs, cells, slots⟩ argsL.toArray q B ∧
      Steps p.tables e below (T.setTop g) ((B.U.setTop { g with stack := rest }).pushFrame (.throwing q))) := by
  obtain ⟨mk, methM, cM, hnamed, hmethM, -, -, -, -, -, -, hsigM⟩ := Cond.codeWith_spec hcode
  have hstatic : methM.isStatic = true := Cond.static_spec hnamed hmethM hstat
  obtain ⟨kP, hkP, -⟩ := className_of_methodNamed hnamed
  have hinitP : kP.init = .initialized := Cond.initialized_spec (findClass_of_methodNamed hnamed) hkP hinit
  obtain ⟨vm₁, X₁, hstep₁⟩ := X.invokestatic hexec hown hlink hnamed hmethM hstatic hkP hinitP hy (g := g) hg (argsL := argsL) (rest := rest) (hlen _ hsigM) hstack hdg
  rcases hK m meth c ⟨T.setVm vm₁, locs, cells, slots⟩ { g with stack := rest } (.invokestatic index) mk argsL.toArray X₁ hg hsize hdg hW (X₁.named hnamed) (hpre vm₁ X₁.warmed) with ⟨v, B, X', hpost, hsteps⟩ | ⟨q, B, X', hpost, hsteps⟩
  · exact Or.inl ⟨v, vm₁, B, X₁.warmed, X', hpost, fun target h => hstep₁ _ fun acts => by rw [doInvoke_state]; exact hsteps.trans h⟩
  · exact Or.inr ⟨q, vm₁, B, X₁.warmed, X', hpost, hstep₁ _ fun acts => by rw [doInvoke_state]; exact hsteps⟩
theorem vx_callVW (X : Stand p l e R s m args below meth c T locs cells slots) (hexec : p.tables.exec = Jvm.exec) {own C : String} {index : Nat} {y : MethodName} {bytes : ByteArray} {maxL : Nat} {ret : Option FieldType} {hh : List (Nat × Nat × Nat × Nat)}
    (hown : s.vm.findClass own = some m.cls) (hlink : (Cond.methodLink own index y).before args s = true) (hinst : (Cond.instanceMethod y).before args s = true) (hsel : (Cond.selects C y y).before args s = true)
    (hcode : (Cond.codeWith y bytes maxL ret hh).before args s = true) (hy : y.cls ≠ "java/lang/invoke/MethodHandle" ∧ y.cls ≠ "java/lang/invoke/VarHandle")
    {W9 : Nat} {Pre : Pt → Array Value → Prop} {Post : Pt → Array Value → Option Value → Pt → Prop} (hK : Back l R p e below s args y 3 W9 Pre Post)
    {b : Addr} {cellB : Cell} (hcell : T.heap[b]? = some cellB) (hobj : cellB.vm.isStatics = false) (hcls : s.vm.findClass C = some cellB.cls)
    {g : JFrame} (hg : g.method = m) (hsize : g.locals.size = c.maxLocals) {argsL rest : List Value} (hlen : ∀ sig, parseMethodDescriptor y.desc = some sig → argsL.length = sig.parameters.length)
    (hstack : g.stack = argsL.reverse ++ .ref b :: rest) (hW : 2 * g.monitorRoom + (rest.map fun v => v.category).sum ≤ W9) (hdg : decode c.code g.pc = .ok (.invokevirtual index, 3))
    (hpre : ∀ vm₁, s.WarmedH vm₁ → Pre ⟨T.setVm vm₁, locs, cells, slots⟩ (Value.ref b :: argsL).toArray) :
    ∃ (v : Option Value) (vm₁ : Vm) (B : Pt), s.WarmedH vm₁ ∧ Stand p l e R s m args below meth c B.U B.locs B.cells B.slots ∧ Post ⟨T.setVm vm₁, locs, cells, slots⟩ (Value.ref b :: argsL).toArray v B ∧
      ∀ target, Steps p.tables e below (B.U.setTop { g with pc := g.pc + 3, stack := v.toList ++ rest }) target → Steps p.tables e below (T.setTop g) target := by
  obtain ⟨mk, methM, hnamed, hmethM, hstM, habM⟩ := Cond.instanceMethod_spec hinst
  obtain ⟨m8, methM', cM, hn8, hmethM', -, -, -, -, -, -, hsigM⟩ := Cond.codeWith_spec hcode
  cases Option.some.inj (hn8.symm.trans hnamed)
  cases hmethM.symm.trans hmethM'
  obtain ⟨c2, r2, m2, q1, q2, q3, q4, kP, hkP, hkPi⟩ := Cond.selects_spec hsel
  cases hcls.symm.trans q1
  cases (State.methodFound?_of_named hnamed hy).symm.trans q2
  cases hnamed.symm.trans q3
  have hselP : selectMethod e.platform s.vm cellB.cls mk = .method mk := by rw [Launch.admits_selectMethod X.admits]; exact q4
  obtain ⟨vm₁, X₁, hstep₁⟩ := X.invokevirtual hexec hown hlink hnamed hmethM hstM hkP hkPi hy (a := b) (cell := cellB) hcell
    (fun z h => by rw [h] at hobj; cases hobj) hselP hmethM habM hkP hkPi (g := g) hg (argsL := argsL) (rest := rest) (hlen _ hsigM) hstack hdg
  obtain ⟨v, B, X', hpost, hsteps⟩ := hK m meth c ⟨T.setVm vm₁, locs, cells, slots⟩ { g with stack := rest } (.invokevirtual index) mk (Value.ref b :: argsL).toArray X₁ hg hsize hdg hW (X₁.named hnamed) (hpre vm₁ X₁.warmed)
  exact ⟨v, vm₁, B, X₁.warmed, X', hpost, fun target h => hstep₁ _ fun acts => by rw [doInvoke_state]; exact hsteps.trans h⟩
abbrev vx_CVW (R : Room) (s : State) (args : Array Value) (own C : String) (index : Nat) (y : MethodName) (bytes : ByteArray) (maxL : Nat) (ret : Option FieldType) (hh : List (Nat × Nat × Nat × Nat)) (ws : List Cond) (rm : Room) (mc ms n : Nat) : Prop :=
  (rm.cells = mc ∧ rm.slots = ms ∧ rm.frames + 1 ≤ R.frames ∧ 8 + (maxL + 11) + rm.locals ≤ R.locals ∧ (∀ w ∈ ws, ∀ (a' : Array Value) (U : State), s.WarmedH U.vm → w.before a' U = true) ∧ Cond.codeWith y bytes maxL ret hh ∈ ws) ∧
  (Cond.codeWith y bytes maxL ret hh).before args s = true ∧ (Cond.initialized y.cls).before args s = true ∧ (y.cls ≠ "java/lang/invoke/MethodHandle" ∧ y.cls ≠ "java/lang/invoke/VarHandle") ∧
  (∀ sig, parseMethodDescriptor y.desc = some sig → n = sig.parameters.length) ∧ (Cond.methodLink own index y).before args s = true ∧ (Cond.instanceMethod y).before args s = true ∧ (Cond.selects C y y).before args s = true
theorem vx_cwVW {own C : String} {index maxL mc ms : Nat} {y : MethodName} {bytes : ByteArray} {ret : Option FieldType} {hh : List (Nat × Nat × Nat × Nat)} {Ts ws ws' : List Cond} {rm : Room} (n : Nat) (ht : ∀ w ∈ Ts, w.before args s = true) (hT : GoodIn Ts (wsV own index C y ws)) (hw : ws = Cond.codeWith y bytes maxL ret hh :: ws') (hrc : rm.cells = mc) (hrs : rm.slots = ms)
    (hd : y.cls = C ∧ y.cls ≠ "java/lang/invoke/MethodHandle" ∧ y.cls ≠ "java/lang/invoke/VarHandle" ∧ (parseMethodDescriptor y.desc).map (fun d => d.parameters.length) = some n) (hR : rm.frames + 1 ≤ R.frames ∧ 8 + (maxL + 11) + rm.locals ≤ R.locals) :
    vx_CVW R s args own C index y bytes maxL ret hh ws rm mc ms n := by
  obtain ⟨hC, hd⟩ := hd
  subst hC
  have ok : ∀ w ∈ wsV own index y.cls y ws, w.before args s = true := fun w h => ht w (hT w h).1
  have hG : GoodIn Ts ws := fun w h => hT w (by unfold wsV; exact List.mem_append_right _ h)
  have hc : Cond.codeWith y bytes maxL ret hh ∈ ws := by rw [hw]; exact List.mem_cons_self
  refine ⟨⟨hrc, hrs, hR.1, hR.2, pay_in ht hG, hc⟩, ht _ (hG _ hc).1, ok _ (by simp [wsV]), ⟨hd.1, hd.2.1⟩, fun sig h => ?_, ok _ (by simp [wsV]), ok _ (by simp [wsV]), ok _ (by simp [wsV])⟩
  have h2 := hd.2.2
  rw [h] at h2
  exact (Option.some.inj h2).symm
theorem vx_runVW {y : MethodName} {bytes cc : ByteArray} {maxL nL mc ms n index : Nat} {ret : Option FieldType} {hh : List (Nat × Nat × Nat × Nat)} {ws : List Cond} {rm : Room} {Pc : Array Value → State → Prop} {Qc : Array Value → State → Outcome → State → Prop} {free : Addr → Prop} {Ts : List Cond} {own C : String} {b : Addr} {As rest : List Value} {g : JFrame}
    (S : CallFix p m c cc nL s args Ts own) (hM : Met l y ws rm Pc Qc mc ms free) (cw : vx_CVW R s args own C index y bytes maxL ret hh ws rm mc ms n) (hp : PreV s H C b Pc As)
    (hg : g.method = m) (hn : As.length = n) (hsize : g.locals.size = nL) (hstack : g.stack = As.reverse ++ .ref b :: rest) (hW : 2 * g.monitorRoom + (rest.map fun v => v.category).sum ≤ 8) (hdg : decode cc g.pc = .ok (.invokevirtual index, 3)) (hf : cells + mc ≤ R.cells ∧ slots + ms ≤ R.slots) :
    va_Run p l e R s m args below meth c H locs cells slots mc ms g rest (Qc (Value.ref b :: As).toArray) free := by
  obtain ⟨⟨hrc, hrs, hfr, hlo, hws, hcw⟩, hcode, hini, hy, hlen, hl, hin, hse⟩ := cw
  have hK : Back l R p e below s args y 3 8 (PreOf R mc ms Pc) (PostOf Qc mc ms free) := va_backW (hh := hh) (bytes := bytes) (maxL := maxL) (ret := ret) hM hp.1 hrc hrs hfr hlo hws hcw (fun a' U hW => word_at hW (Or.inl (by first | rfl | simp [Cond.onTables, Cond.keeps, Cond.steady])) hini)
  obtain ⟨hx, hb, hml, ho, -⟩ := S
  obtain ⟨-, ⟨cellB, hcB, hoB, hclB⟩, hPc⟩ := hp
  intro T hT X
  obtain ⟨v, vm₁, ⟨U', l2, c2, s2⟩, hW₁, X', ⟨g', mk, t, L, e1, e2, hq, h1, hL, h2, h3⟩, st⟩ := vx_callVW X hx (C := C) (hh := hh) (bytes := bytes) (maxL := maxL) (ret := ret) ho hl hin hse hcode hy hK (by rw [hT]; exact hcB) hoB hclB hg (hsize.trans hml.symm) (argsL := As) (rest := rest) (fun sig h => hn.trans (hlen sig h)) hstack hW (by rw [hb]; exact hdg)
    (fun vm₁ hW₁ => ⟨hf.1, hf.2, hPc (T.setVm vm₁) hT hW₁⟩)
  dsimp only [Pt.U, Pt.locs, Pt.cells, Pt.slots] at X' e1 e2 h1 h2 h3 st
  subst h1; subst h2; subst h3
  exact ⟨v, (T.setVm vm₁).calling g' mk (Value.ref b :: As).toArray, t, U', L, hT, X', hL, e1, e2, hq, st⟩
section
variable {y : MethodName} {bytes cc : ByteArray} {maxL nL mc ms n index : Nat} {ret : Option FieldType} {ws : List Cond} {rm : Room} {Pc : Array Value → State → Prop} {Qc : Array Value → State → Outcome → State → Prop} {XC : String → State → State → Prop} {free : Addr → Prop} {Ts : List Cond} {own C : String} {b : Addr} {As rest : List Value} {g : JFrame}
theorem vx_runVX {hh : List (Nat × Nat × Nat × Nat)} (S : CallFix p m c cc nL s args Ts own) (hM : vx_Met l y ws rm Pc Qc XC mc ms free) (cw : vx_CVW R s args own C index y bytes maxL ret hh ws rm mc ms n) (hp : PreV s H C b Pc As)
    (hg : g.method = m) (hn : As.length = n) (hsize : g.locals.size = nL) (hstack : g.stack = As.reverse ++ .ref b :: rest) (hW : 2 * g.monitorRoom + (rest.map fun v => v.category).sum ≤ 8) (hdg : decode cc g.pc = .ok (.invokevirtual index, 3)) (hf : cells + mc ≤ R.cells ∧ slots + ms ≤ R.slots) :
    vx_Run p l e R s m args below meth c H locs cells slots mc ms g rest (Qc (Value.ref b :: As).toArray) XC free := by
  obtain ⟨⟨hrc, hrs, hfr, hlo, hws, hcw⟩, hcode, hini, hy, hlen, hl, hin, hse⟩ := cw
  have hK : vx_Back l R p e below s args y 3 8 (PreOf R mc ms Pc) (PostOf Qc mc ms free) (vx_Post XC mc ms free) := vx_backW (hh := hh) (bytes := bytes) (maxL := maxL) (ret := ret) hM hp.1 hrc hrs hfr hlo hws hcw (fun a' U hW => word_at hW (Or.inl (by first | rfl | simp [Cond.onTables, Cond.keeps, Cond.steady])) hini)
  obtain ⟨hx, hb, hml, ho, -⟩ := S
  obtain ⟨-, ⟨cellB, hcB, hoB, hclB⟩, hPc⟩ := hp
  intro T hT X
  rcases vx_callVX X hx (C := C) (hh := hh) (bytes := bytes) (maxL := maxL) (ret := ret) ho hl hin hse hcode hy hK (by rw [hT]; exact hcB) hoB hclB hg (hsize.trans hml.symm) (argsL := As) (rest := rest) (fun sig h => hn.trans (hlen sig h)) hstack hW (by rw [hb]; exact hdg)
    (fun vm₁ hW₁ => ⟨hf.1, hf.2, hPc (T.setVm vm₁) hT hW₁⟩) with ⟨v, vm₁, ⟨U', l2, c2, s2⟩, hW₁, X', ⟨g', mk, t, L, e1, e2, hq, h1, hL, h2, h3⟩, st⟩ | ⟨q, vm₁, ⟨U', l2, c2, s2⟩, hW₁, X', ⟨g', mk, t, L, E, ce, e1, e2, hq, hce, hcv, hcl, h1, hL, h2, h3⟩, st⟩
  · dsimp only [Pt.U, Pt.locs, Pt.cells, Pt.slots] at X' e1 e2 h1 h2 h3 st
    subst h1; subst h2; subst h3
    exact Or.inl ⟨v, (T.setVm vm₁).calling g' mk (Value.ref b :: As).toArray, t, U', L, hT, X', hL, e1, e2, hq, st⟩
  · dsimp only [Pt.U, Pt.locs, Pt.cells, Pt.slots] at X' e1 e2 h1 h2 h3 st hcl
    subst h1; subst h2; subst h3
    exact Or.inr ⟨q, (T.setVm vm₁).calling g' mk (Value.ref b :: As).toArray, t, U', L, E, ce, hT, X', hL, e1, e2, hq, hce, hcv, vx_cls hW₁ hcl, st⟩
theorem vx_runSX {hh : List (Nat × Nat × Nat × Nat)} (S : CallFix p m c cc nL s args Ts own) (hM : vx_Met l y ws rm Pc Qc XC mc ms free) (cw : vx_CSW R s args own index y bytes maxL ret hh ws rm mc ms n) (hp : PreS s H Pc As)
    (hg : g.method = m) (hn : As.length = n) (hsize : g.locals.size = nL) (hstack : g.stack = As.reverse ++ rest) (hW : 2 * g.monitorRoom + (rest.map fun v => v.category).sum ≤ 8) (hdg : decode cc g.pc = .ok (.invokestatic index, 3)) (hf : cells + mc ≤ R.cells ∧ slots + ms ≤ R.slots) :
    vx_Run p l e R s m args below meth c H locs cells slots mc ms g rest (Qc As.toArray) XC free := by
  obtain ⟨⟨hrc, hrs, hfr, hlo, hws, hcw⟩, hcode, hini, hy, hlen, hl, hstt⟩ := cw
  have hK : vx_Back l R p e below s args y 3 8 (PreOf R mc ms Pc) (PostOf Qc mc ms free) (vx_Post XC mc ms free) := vx_backW (hh := hh) (bytes := bytes) (maxL := maxL) (ret := ret) hM hp.1 hrc hrs hfr hlo hws hcw (fun a' U hW => word_at hW (Or.inl (by first | rfl | simp [Cond.onTables, Cond.keeps, Cond.steady])) hini)
  obtain ⟨hx, hb, hml, ho, -⟩ := S
  intro T hT X
  rcases vx_callSX X hx (hh := hh) (bytes := bytes) (maxL := maxL) (ret := ret) ho hl hstt hini hcode hy hK hg (hsize.trans hml.symm) (argsL := As) (rest := rest) (fun sig h => hn.trans (hlen sig h)) hstack hW (by rw [hb]; exact hdg)
    (fun vm₁ hW₁ => ⟨hf.1, hf.2, hp.2 (T.setVm vm₁) hT hW₁⟩) with ⟨v, vm₁, ⟨U', l2, c2, s2⟩, hW₁, X', ⟨g', mk, t, L, e1, e2, hq, h1, hL, h2, h3⟩, st⟩ | ⟨q, vm₁, ⟨U', l2, c2, s2⟩, hW₁, X', ⟨g', mk, t, L, E, ce, e1, e2, hq, hce, hcv, hcl, h1, hL, h2, h3⟩, st⟩
  · dsimp only [Pt.U, Pt.locs, Pt.cells, Pt.slots] at X' e1 e2 h1 h2 h3 st
    subst h1; subst h2; subst h3
    exact Or.inl ⟨v, (T.setVm vm₁).calling g' mk As.toArray, t, U', L, hT, X', hL, e1, e2, hq, st⟩
  · dsimp only [Pt.U, Pt.locs, Pt.cells, Pt.slots] at X' e1 e2 h1 h2 h3 st hcl
    subst h1; subst h2; subst h3
    exact Or.inr ⟨q, (T.setVm vm₁).calling g' mk As.toArray, t, U', L, E, ce, hT, X', hL, e1, e2, hq, hce, hcv, vx_cls hW₁ hcl, st⟩
end
end VXH
theorem vx_ofWH {l : Launch} {y : MethodName} {ws ws' : List Cond} {rm : Room} {Pc : Array Value → State → Prop} {Qc : Array Value → State → Outcome → State → Prop} {XC : String → State → State → Prop} {mc ms : Nat} {free : Addr → Prop} {cc : ByteArray} {maxL : Nat} {ret : Option FieldType} {hh : List (Nat × Nat × Nat × Nat)}
    (hy : plainName y.cls = true) (hw : ws = Cond.codeWith y cc maxL ret hh :: ws')
    (body : ∀ p e s m args below meth c s₁, BodyLoose p l y (headSpec ws rm) cc maxL ret e s m args below meth c s₁ → c.maxLocals = maxL → Pc args s →
      W p l e (headSpec ws rm).room s m args below meth c s.heap [] 0 0 (vx_MQ below Qc XC args s mc ms free) (entryFrame m args maxL)) : vx_Met l y ws rm Pc Qc XC mc ms free := by
  refine MetFree.of_bodyS (code := cc) (maxLocals := maxL) (ret := ret) hy ?_ ?_
  · intro args s m h hn
    obtain ⟨m9, meth, c, hn9, h1, h2, h3, h4, -, h5, h6, -⟩ := Cond.codeWith_spec (atoms_spec (ws := ws) h _ (by rw [hw]; exact List.mem_cons_self))
    cases hn.symm.trans hn9
    exact ⟨meth, c, h1, h2, h3, h4, h5, h6⟩
  · intro p e s m args below meth c s₁ B hml hP _
    have hh0 : s₁.heap = s.heap := by rw [B.state]; rfl
    obtain ⟨t, a1, o, b1, b2, b3⟩ := body p e s m args below meth c s₁ B hml hP s₁ hh0 (Stand.of_body B)
    exact ⟨t, o, a1, b1, b2, b3⟩
/-! ===== END ===== -/
end
section
def vx_atM (X : String) (names : List String) : List Cond := (Bundle.messageArmAtoms X names).filter vx_no
def RX0 : String := "HarnessRows$Reels"
def TX0 : u_T := fun k => match k with
  | 0 => ("HarnessRows$Reels", "reelOfWire", "[I", true)
  | 1 => ("HarnessRows$Reels", "wireOfPiece", "[I", true)
  | 2 => ("HarnessRows$Reels", "cuts", "[J", true)
  | 3 => ("HarnessRows$Reels", "filled", "[J", true)
  | 4 => ("HarnessRows$Reels", "trial", "[I", true)
  | 5 => ("HarnessRows$Reels", "pieces", "I", false)
  | 6 => ("HarnessRows$Reels", "fewest", "I", false)
  | _ => ("HarnessRows$Reels", "reelLength", "J", false)
def tyX0 : Nat → FieldType := fun k => match k with
  | 0 => .array .int
  | 1 => .array .int
  | 2 => .array .long
  | 3 => .array .long
  | 4 => .array .int
  | 5 => .int
  | 6 => .int
  | _ => .long
abbrev wsX00 : List Cond := u_ws RX0 TX0 8
theorem nmX0 : ∀ a, a < 8 → ∀ b, b < 8 → a ≠ b → (TX0 a).2.1 ≠ (TX0 b).2.1 := by decide +kernel
theorem tyX0_ok : ∀ k, k < 8 → parseFieldDescriptor (TX0 k).2.2.1 = some (tyX0 k) := by decide +kernel
abbrev cX0_init : ByteArray := prog_2_method_1_code
def yX0_init : MethodName := ⟨RX0, "<init>", "()V"⟩
abbrev cX0_numberOf : ByteArray := prog_2_method_2_code
def yX0_numberOf : MethodName := ⟨RX0, "numberOf", "(I)I"⟩
abbrev cX0_begin : ByteArray := prog_2_method_3_code
def yX0_begin : MethodName := ⟨RX0, "begin", "()V"⟩
abbrev cX0_addPiece : ByteArray := prog_2_method_4_code
def yX0_addPiece : MethodName := ⟨RX0, "addPiece", "(IJ)V"⟩
abbrev cX0_pack : ByteArray := prog_2_method_5_code
def yX0_pack : MethodName := ⟨RX0, "pack", "(J)I"⟩
abbrev cX0_packOnFewest : ByteArray := prog_2_method_6_code
def yX0_packOnFewest : MethodName := ⟨RX0, "packOnFewest", "()I"⟩
abbrev cX0_placeFrom : ByteArray := prog_2_method_7_code
def yX0_placeFrom : MethodName := ⟨RX0, "placeFrom", "(II)V"⟩
abbrev cX0_placeOn : ByteArray := prog_2_method_8_code
def yX0_placeOn : MethodName := ⟨RX0, "placeOn", "(III)V"⟩
abbrev cX0_keepTrial : ByteArray := prog_2_method_9_code
def yX0_keepTrial : MethodName := ⟨RX0, "keepTrial", "(I)V"⟩
abbrev cX0_packLongestFirst : ByteArray := prog_2_method_10_code
def yX0_packLongestFirst : MethodName := ⟨RX0, "packLongestFirst", "()I"⟩
abbrev cX0_longestLeft : ByteArray := prog_2_method_11_code
def yX0_longestLeft : MethodName := ⟨RX0, "longestLeft", "()I"⟩
abbrev cX0_lowestWithRoom : ByteArray := prog_2_method_12_code
def yX0_lowestWithRoom : MethodName := ⟨RX0, "lowestWithRoom", "(I)I"⟩
abbrev cX0_hasRoom : ByteArray := prog_2_method_13_code
def yX0_hasRoom : MethodName := ⟨RX0, "hasRoom", "(II)Z"⟩
def RX1 : String := "HarnessRows$Splices"
def TX1 : u_T := fun k => match k with
  | 0 => ("HarnessRows$Splices", "partners", "[I", true)
  | 1 => ("HarnessRows$Splices", "groups", "[I", true)
  | _ => ("HarnessRows$Splices", "spliceCount", "I", false)
def tyX1 : Nat → FieldType := fun k => match k with
  | 0 => .array .int
  | 1 => .array .int
  | _ => .int
abbrev wsX10 : List Cond := u_ws RX1 TX1 3
theorem nmX1 : ∀ a, a < 3 → ∀ b, b < 3 → a ≠ b → (TX1 a).2.1 ≠ (TX1 b).2.1 := by decide +kernel
theorem tyX1_ok : ∀ k, k < 3 → parseFieldDescriptor (TX1 k).2.2.1 = some (tyX1 k) := by decide +kernel
abbrev cX1_init : ByteArray := prog_3_method_1_code
def yX1_init : MethodName := ⟨RX1, "<init>", "()V"⟩
abbrev cX1_inOneGroup : ByteArray := prog_3_method_2_code
def yX1_inOneGroup : MethodName := ⟨RX1, "inOneGroup", "(II)Z"⟩
abbrev cX1_add : ByteArray := prog_3_method_3_code
def yX1_add : MethodName := ⟨RX1, "add", "(II)I"⟩
abbrev cX1_mergeGroups : ByteArray := prog_3_method_4_code
def yX1_mergeGroups : MethodName := ⟨RX1, "mergeGroups", "(II)V"⟩
def RX2 : String := "HarnessRows$Table"
def TX2 : u_T := fun k => match k with
  | 0 => ("HarnessRows$Table", "areas", "[J", true)
  | 1 => ("HarnessRows$Table", "milliamperes", "[J", true)
  | _ => ("HarnessRows$Table", "microohms", "[J", true)
def tyX2 : Nat → FieldType := fun k => match k with
  | 0 => .array .long
  | 1 => .array .long
  | _ => .array .long
abbrev wsX20 : List Cond := u_ws RX2 TX2 3
theorem nmX2 : ∀ a, a < 3 → ∀ b, b < 3 → a ≠ b → (TX2 a).2.1 ≠ (TX2 b).2.1 := by decide +kernel
theorem tyX2_ok : ∀ k, k < 3 → parseFieldDescriptor (TX2 k).2.2.1 = some (tyX2 k) := by decide +kernel
abbrev cX2_init : ByteArray := prog_4_method_1_code
def yX2_init : MethodName := ⟨RX2, "<init>", "()V"⟩
abbrev cX2_tellRow : ByteArray := prog_4_method_2_code
def yX2_tellRow : MethodName := ⟨RX2, "tellRow", "(IJJJ)Z"⟩
abbrev cX2_leastThatWillDo : ByteArray := prog_4_method_3_code
def yX2_leastThatWillDo : MethodName := ⟨RX2, "leastThatWillDo", "(JJJ)I"⟩
abbrev cX2_willDo : ByteArray := prog_4_method_4_code
def yX2_willDo : MethodName := ⟨RX2, "willDo", "(IJJJ)Z"⟩
def RX3 : String := "HarnessRows$Trees"
def TX3 : u_T := fun k => match k with
  | 0 => ("HarnessRows$Trees", "cavities", "[I", true)
  | 1 => ("HarnessRows$Trees", "firstNodes", "[I", true)
  | 2 => ("HarnessRows$Trees", "otherNodes", "[I", true)
  | 3 => ("HarnessRows$Trees", "lengths", "[I", true)
  | 4 => ("HarnessRows$Trees", "ways", "[J", true)
  | 5 => ("HarnessRows$Trees", "nodes", "I", false)
  | _ => ("HarnessRows$Trees", "bundles", "I", false)
def tyX3 : Nat → FieldType := fun k => match k with
  | 0 => .array .int
  | 1 => .array .int
  | 2 => .array .int
  | 3 => .array .int
  | 4 => .array .long
  | 5 => .int
  | _ => .int
abbrev wsX30 : List Cond := u_ws RX3 TX3 7
theorem nmX3 : ∀ a, a < 7 → ∀ b, b < 7 → a ≠ b → (TX3 a).2.1 ≠ (TX3 b).2.1 := by decide +kernel
theorem tyX3_ok : ∀ k, k < 7 → parseFieldDescriptor (TX3 k).2.2.1 = some (tyX3 k) := by decide +kernel
abbrev cX3_init : ByteArray := prog_5_method_1_code
def yX3_init : MethodName := ⟨RX3, "<init>", "()V"⟩
abbrev cX3_nodeCount : ByteArray := prog_5_method_2_code
def yX3_nodeCount : MethodName := ⟨RX3, "nodeCount", "()I"⟩
abbrev cX3_bundleCount : ByteArray := prog_5_method_3_code
def yX3_bundleCount : MethodName := ⟨RX3, "bundleCount", "()I"⟩
abbrev cX3_cavitiesOf : ByteArray := prog_5_method_4_code
def yX3_cavitiesOf : MethodName := ⟨RX3, "cavitiesOf", "(I)I"⟩
abbrev cX3_firstNode : ByteArray := prog_5_method_5_code
def yX3_firstNode : MethodName := ⟨RX3, "firstNode", "(I)I"⟩
abbrev cX3_otherNode : ByteArray := prog_5_method_6_code
def yX3_otherNode : MethodName := ⟨RX3, "otherNode", "(I)I"⟩
abbrev cX3_bundleLength : ByteArray := prog_5_method_7_code
def yX3_bundleLength : MethodName := ⟨RX3, "bundleLength", "(I)I"⟩
abbrev cX3_wayBetween : ByteArray := prog_5_method_8_code
def yX3_wayBetween : MethodName := ⟨RX3, "wayBetween", "(II)J"⟩
abbrev cX3_addNode : ByteArray := prog_5_method_9_code
def yX3_addNode : MethodName := ⟨RX3, "addNode", "(I)I"⟩
abbrev cX3_addBundle : ByteArray := prog_5_method_10_code
def yX3_addBundle : MethodName := ⟨RX3, "addBundle", "(IIJ)I"⟩
abbrev cX3_joinTrees : ByteArray := prog_5_method_11_code
def yX3_joinTrees : MethodName := ⟨RX3, "joinTrees", "(IIJ)V"⟩
abbrev cX3_treeOf : ByteArray := prog_5_method_12_code
def yX3_treeOf : MethodName := ⟨RX3, "treeOf", "(I)I"⟩
abbrev cX3_setWay : ByteArray := prog_5_method_13_code
def yX3_setWay : MethodName := ⟨RX3, "setWay", "(IIJ)V"⟩
def RX4 : String := "HarnessRows$Variants"
def TX4 : u_T := fun k => match k with
  | 0 => ("HarnessRows$Variants", "toldWires", "[I", true)
  | 1 => ("HarnessRows$Variants", "onWires", "[I", true)
  | _ => ("HarnessRows$Variants", "variantCount", "I", false)
def tyX4 : Nat → FieldType := fun k => match k with
  | 0 => .array .int
  | 1 => .array .int
  | _ => .int
abbrev wsX40 : List Cond := u_ws RX4 TX4 3
theorem nmX4 : ∀ a, a < 3 → ∀ b, b < 3 → a ≠ b → (TX4 a).2.1 ≠ (TX4 b).2.1 := by decide +kernel
theorem tyX4_ok : ∀ k, k < 3 → parseFieldDescriptor (TX4 k).2.2.1 = some (tyX4 k) := by decide +kernel
abbrev cX4_init : ByteArray := prog_6_method_1_code
def yX4_init : MethodName := ⟨RX4, "<init>", "()V"⟩
abbrev cX4_count : ByteArray := prog_6_method_2_code
def yX4_count : MethodName := ⟨RX4, "count", "()I"⟩
abbrev cX4_add : ByteArray := prog_6_method_3_code
def yX4_add : MethodName := ⟨RX4, "add", "()I"⟩
abbrev cX4_tellWire : ByteArray := prog_6_method_4_code
def yX4_tellWire : MethodName := ⟨RX4, "tellWire", "(IIZ)Z"⟩
abbrev cX4_wireOff : ByteArray := prog_6_method_5_code
def yX4_wireOff : MethodName := ⟨RX4, "wireOff", "(II)I"⟩
abbrev cX4_isOn : ByteArray := prog_6_method_6_code
def yX4_isOn : MethodName := ⟨RX4, "isOn", "(II)Z"⟩
def RX5 : String := "HarnessRows$Wires"
def TX5 : u_T := fun k => match k with
  | 0 => ("HarnessRows$Wires", "firstEnds", "[I", true)
  | 1 => ("HarnessRows$Wires", "otherEnds", "[I", true)
  | 2 => ("HarnessRows$Wires", "colours", "[I", true)
  | 3 => ("HarnessRows$Wires", "loads", "[J", true)
  | 4 => ("HarnessRows$Wires", "drops", "[J", true)
  | _ => ("HarnessRows$Wires", "wireCount", "I", false)
def tyX5 : Nat → FieldType := fun k => match k with
  | 0 => .array .int
  | 1 => .array .int
  | 2 => .array .int
  | 3 => .array .long
  | 4 => .array .long
  | _ => .int
abbrev wsX50 : List Cond := u_ws RX5 TX5 6
theorem nmX5 : ∀ a, a < 6 → ∀ b, b < 6 → a ≠ b → (TX5 a).2.1 ≠ (TX5 b).2.1 := by decide +kernel
theorem tyX5_ok : ∀ k, k < 6 → parseFieldDescriptor (TX5 k).2.2.1 = some (tyX5 k) := by decide +kernel
abbrev cX5_init : ByteArray := prog_7_method_1_code
def yX5_init : MethodName := ⟨RX5, "<init>", "()V"⟩
abbrev cX5_count : ByteArray := prog_7_method_2_code
def yX5_count : MethodName := ⟨RX5, "count", "()I"⟩
abbrev cX5_firstEnd : ByteArray := prog_7_method_3_code
def yX5_firstEnd : MethodName := ⟨RX5, "firstEnd", "(I)I"⟩
abbrev cX5_otherEnd : ByteArray := prog_7_method_4_code
def yX5_otherEnd : MethodName := ⟨RX5, "otherEnd", "(I)I"⟩
abbrev cX5_colourOf : ByteArray := prog_7_method_5_code
def yX5_colourOf : MethodName := ⟨RX5, "colourOf", "(I)I"⟩
abbrev cX5_loadOf : ByteArray := prog_7_method_6_code
def yX5_loadOf : MethodName := ⟨RX5, "loadOf", "(I)J"⟩
abbrev cX5_dropOf : ByteArray := prog_7_method_7_code
def yX5_dropOf : MethodName := ⟨RX5, "dropOf", "(I)J"⟩
abbrev cX5_wireAt : ByteArray := prog_7_method_8_code
def yX5_wireAt : MethodName := ⟨RX5, "wireAt", "(I)I"⟩
abbrev cX5_add : ByteArray := prog_7_method_9_code
def yX5_add : MethodName := ⟨RX5, "add", "(II)I"⟩
abbrev cX5_tellLoad : ByteArray := prog_7_method_10_code
def yX5_tellLoad : MethodName := ⟨RX5, "tellLoad", "(IJJ)Z"⟩
abbrev cX5_freeColour : ByteArray := prog_7_method_11_code
def yX5_freeColour : MethodName := ⟨RX5, "freeColour", "(II)I"⟩
abbrev cX5_endsAt : ByteArray := prog_7_method_12_code
def yX5_endsAt : MethodName := ⟨RX5, "endsAt", "(II)Z"⟩
def RX6 : String := "HarnessRows"
def TX6 : u_T := fun k => match k with
  | 0 => ("HarnessRows", "trees", "LHarnessRows$Trees;", true)
  | 1 => ("HarnessRows", "wires", "LHarnessRows$Wires;", true)
  | 2 => ("HarnessRows", "rows", "LHarnessRows$Table;", true)
  | 3 => ("HarnessRows", "reels", "LHarnessRows$Reels;", true)
  | 4 => ("HarnessRows", "splices", "LHarnessRows$Splices;", true)
  | 5 => ("HarnessRows", "variants", "LHarnessRows$Variants;", true)
  | 6 => ("HarnessRows", "line", "Ljava/lang/StringBuilder;", true)
  | 7 => ("HarnessRows", "slackAbove", "J", false)
  | _ => ("HarnessRows", "slackBelow", "J", false)
def tyX6 : Nat → FieldType := fun k => match k with
  | 0 => .object "HarnessRows$Trees"
  | 1 => .object "HarnessRows$Wires"
  | 2 => .object "HarnessRows$Table"
  | 3 => .object "HarnessRows$Reels"
  | 4 => .object "HarnessRows$Splices"
  | 5 => .object "HarnessRows$Variants"
  | 6 => .object "java/lang/StringBuilder"
  | 7 => .long
  | _ => .long
abbrev wsX60 : List Cond := u_ws RX6 TX6 9
theorem nmX6 : ∀ a, a < 9 → ∀ b, b < 9 → a ≠ b → (TX6 a).2.1 ≠ (TX6 b).2.1 := by decide +kernel
theorem tyX6_ok : ∀ k, k < 9 → parseFieldDescriptor (TX6 k).2.2.1 = some (tyX6 k) := by decide +kernel
abbrev cX6_init : ByteArray := prog_1_method_1_code
def yX6_init : MethodName := ⟨RX6, "<init>", "()V"⟩
abbrev cX6_connector : ByteArray := prog_1_method_2_code
def yX6_connector : MethodName := ⟨RX6, "connector", "(I)I"⟩
abbrev cX6_node : ByteArray := prog_1_method_3_code
def yX6_node : MethodName := ⟨RX6, "node", "()I"⟩
abbrev cX6_bundle : ByteArray := prog_1_method_4_code
def yX6_bundle : MethodName := ⟨RX6, "bundle", "(IIJ)I"⟩
abbrev cX6_wire : ByteArray := prog_1_method_5_code
def yX6_wire : MethodName := ⟨RX6, "wire", "(IIII)I"⟩
abbrev cX6_load : ByteArray := prog_1_method_6_code
def yX6_load : MethodName := ⟨RX6, "load", "(IJJ)Z"⟩
abbrev cX6_gauge : ByteArray := prog_1_method_7_code
def yX6_gauge : MethodName := ⟨RX6, "gauge", "(I)I"⟩
abbrev cX6_table : ByteArray := prog_1_method_8_code
def yX6_table : MethodName := ⟨RX6, "table", "(IJJJ)Z"⟩
abbrev cX6_length : ByteArray := prog_1_method_9_code
def yX6_length : MethodName := ⟨RX6, "length", "(I)J"⟩
abbrev cX6_slack : ByteArray := prog_1_method_10_code
def yX6_slack : MethodName := ⟨RX6, "slack", "(JJ)Z"⟩
abbrev cX6_reel : ByteArray := prog_1_method_11_code
def yX6_reel : MethodName := ⟨RX6, "reel", "(J)I"⟩
abbrev cX6_reelOf : ByteArray := prog_1_method_12_code
def yX6_reelOf : MethodName := ⟨RX6, "reelOf", "(I)I"⟩
abbrev cX6_splice : ByteArray := prog_1_method_13_code
def yX6_splice : MethodName := ⟨RX6, "splice", "(II)I"⟩
abbrev cX6_joined : ByteArray := prog_1_method_14_code
def yX6_joined : MethodName := ⟨RX6, "joined", "(IIII)Z"⟩
abbrev cX6_colour : ByteArray := prog_1_method_15_code
def yX6_colour : MethodName := ⟨RX6, "colour", "(I)I"⟩
abbrev cX6_variant : ByteArray := prog_1_method_16_code
def yX6_variant : MethodName := ⟨RX6, "variant", "()I"⟩
abbrev cX6_has : ByteArray := prog_1_method_17_code
def yX6_has : MethodName := ⟨RX6, "has", "(IIZ)Z"⟩
abbrev cX6_told : ByteArray := prog_1_method_18_code
def yX6_told : MethodName := ⟨RX6, "told", "(II)I"⟩
abbrev cX6_command : ByteArray := prog_1_method_19_code
def yX6_command : MethodName := ⟨RX6, "command", "(II)I"⟩
abbrev cX6_checkIndex : ByteArray := prog_1_method_20_code
def yX6_checkIndex : MethodName := ⟨RX6, "checkIndex", "(II)V"⟩
abbrev cX6_checkNotBelowZero : ByteArray := prog_1_method_21_code
def yX6_checkNotBelowZero : MethodName := ⟨RX6, "checkNotBelowZero", "(I)V"⟩
abbrev cX6_checkNumber : ByteArray := prog_1_method_22_code
def yX6_checkNumber : MethodName := ⟨RX6, "checkNumber", "(JJJ)V"⟩
abbrev cX6_checkCavity : ByteArray := prog_1_method_23_code
def yX6_checkCavity : MethodName := ⟨RX6, "checkCavity", "(II)V"⟩
abbrev cX6_endOf : ByteArray := prog_1_method_24_code
def yX6_endOf : MethodName := ⟨RX6, "endOf", "(II)I"⟩
abbrev cX6_nodeOf : ByteArray := prog_1_method_25_code
def yX6_nodeOf : MethodName := ⟨RX6, "nodeOf", "(I)I"⟩
abbrev cX6_hasBit : ByteArray := prog_1_method_26_code
def yX6_hasBit : MethodName := ⟨RX6, "hasBit", "(II)Z"⟩
abbrev cX6_cutLength : ByteArray := prog_1_method_27_code
def yX6_cutLength : MethodName := ⟨RX6, "cutLength", "(I)J"⟩
abbrev cX6_writeBundle : ByteArray := prog_1_method_28_code
def yX6_writeBundle : MethodName := ⟨RX6, "writeBundle", "(I)V"⟩
abbrev cX6_writeNode : ByteArray := prog_1_method_29_code
def yX6_writeNode : MethodName := ⟨RX6, "writeNode", "(I)V"⟩
def RX7 : String := "HarnessRowsModel"
def TX7 : u_T := fun k => match k with
  | 0 => ("HarnessRowsModel", "thrown", "I", false)
  | 1 => ("HarnessRowsModel", "nodes", "I", false)
  | 2 => ("HarnessRowsModel", "cavities", "[I", true)
  | 3 => ("HarnessRowsModel", "far", "[J", true)
  | 4 => ("HarnessRowsModel", "bundles", "I", false)
  | 5 => ("HarnessRowsModel", "bundleA", "[I", true)
  | 6 => ("HarnessRowsModel", "bundleB", "[I", true)
  | 7 => ("HarnessRowsModel", "bundleLength", "[J", true)
  | 8 => ("HarnessRowsModel", "wires", "I", false)
  | 9 => ("HarnessRowsModel", "endA", "[I", true)
  | 10 => ("HarnessRowsModel", "endB", "[I", true)
  | 11 => ("HarnessRowsModel", "loads", "[J", true)
  | 12 => ("HarnessRowsModel", "drops", "[J", true)
  | 13 => ("HarnessRowsModel", "wireAt", "[I", true)
  | 14 => ("HarnessRowsModel", "slackAbove", "J", false)
  | 15 => ("HarnessRowsModel", "slackBelow", "J", false)
  | 16 => ("HarnessRowsModel", "told", "[Z", true)
  | 17 => ("HarnessRowsModel", "areas", "[J", true)
  | 18 => ("HarnessRowsModel", "amperes", "[J", true)
  | 19 => ("HarnessRowsModel", "ohms", "[J", true)
  | 20 => ("HarnessRowsModel", "reels", "[I", true)
  | 21 => ("HarnessRowsModel", "splices", "I", false)
  | 22 => ("HarnessRowsModel", "spliceA", "[I", true)
  | 23 => ("HarnessRowsModel", "spliceB", "[I", true)
  | 24 => ("HarnessRowsModel", "group", "[I", true)
  | 25 => ("HarnessRowsModel", "variants", "I", false)
  | 26 => ("HarnessRowsModel", "marks", "[I", true)
  | 27 => ("HarnessRowsModel", "many", "I", false)
  | 28 => ("HarnessRowsModel", "packed", "[I", true)
  | 29 => ("HarnessRowsModel", "tried", "[I", true)
  | 30 => ("HarnessRowsModel", "used", "[J", true)
  | 31 => ("HarnessRowsModel", "wanted", "I", false)
  | 32 => ("HarnessRowsModel", "written", "I", false)
  | _ => ("HarnessRowsModel", "found", "I", false)
def tyX7 : Nat → FieldType := fun k => match k with
  | 0 => .int
  | 1 => .int
  | 2 => .array .int
  | 3 => .array .long
  | 4 => .int
  | 5 => .array .int
  | 6 => .array .int
  | 7 => .array .long
  | 8 => .int
  | 9 => .array .int
  | 10 => .array .int
  | 11 => .array .long
  | 12 => .array .long
  | 13 => .array .int
  | 14 => .long
  | 15 => .long
  | 16 => .array .boolean
  | 17 => .array .long
  | 18 => .array .long
  | 19 => .array .long
  | 20 => .array .int
  | 21 => .int
  | 22 => .array .int
  | 23 => .array .int
  | 24 => .array .int
  | 25 => .int
  | 26 => .array .int
  | 27 => .int
  | 28 => .array .int
  | 29 => .array .int
  | 30 => .array .long
  | 31 => .int
  | 32 => .int
  | _ => .int
abbrev wsX70 : List Cond := u_ws RX7 TX7 34
theorem nmX7 : ∀ a, a < 34 → ∀ b, b < 34 → a ≠ b → (TX7 a).2.1 ≠ (TX7 b).2.1 := by decide +kernel
theorem tyX7_ok : ∀ k, k < 34 → parseFieldDescriptor (TX7 k).2.2.1 = some (tyX7 k) := by decide +kernel
abbrev cX7_init : ByteArray := prog_9_method_1_code
def yX7_init : MethodName := ⟨RX7, "<init>", "()V"⟩
abbrev cX7_thrown : ByteArray := prog_9_method_2_code
def yX7_thrown : MethodName := ⟨RX7, "thrown", "()I"⟩
abbrev cX7_within : ByteArray := prog_9_method_3_code
def yX7_within : MethodName := ⟨RX7, "within", "(JJJ)Z"⟩
abbrev cX7_isNode : ByteArray := prog_9_method_4_code
def yX7_isNode : MethodName := ⟨RX7, "isNode", "(I)Z"⟩
abbrev cX7_isCavity : ByteArray := prog_9_method_5_code
def yX7_isCavity : MethodName := ⟨RX7, "isCavity", "(II)Z"⟩
abbrev cX7_isWire : ByteArray := prog_9_method_6_code
def yX7_isWire : MethodName := ⟨RX7, "isWire", "(I)Z"⟩
abbrev cX7_addNode : ByteArray := prog_9_method_7_code
def yX7_addNode : MethodName := ⟨RX7, "addNode", "(I)I"⟩
abbrev cX7_connector : ByteArray := prog_9_method_8_code
def yX7_connector : MethodName := ⟨RX7, "connector", "(I)I"⟩
abbrev cX7_node : ByteArray := prog_9_method_9_code
def yX7_node : MethodName := ⟨RX7, "node", "()I"⟩
abbrev cX7_bundle : ByteArray := prog_9_method_10_code
def yX7_bundle : MethodName := ⟨RX7, "bundle", "(IIJ)I"⟩
abbrev cX7_wire : ByteArray := prog_9_method_11_code
def yX7_wire : MethodName := ⟨RX7, "wire", "(IIII)I"⟩
abbrev cX7_load : ByteArray := prog_9_method_12_code
def yX7_load : MethodName := ⟨RX7, "load", "(IJJ)Z"⟩
abbrev cX7_slack : ByteArray := prog_9_method_13_code
def yX7_slack : MethodName := ⟨RX7, "slack", "(JJ)Z"⟩
abbrev cX7_lengthOf : ByteArray := prog_9_method_14_code
def yX7_lengthOf : MethodName := ⟨RX7, "lengthOf", "(I)J"⟩
abbrev cX7_length : ByteArray := prog_9_method_15_code
def yX7_length : MethodName := ⟨RX7, "length", "(I)J"⟩
abbrev cX7_isNumber : ByteArray := prog_9_method_16_code
def yX7_isNumber : MethodName := ⟨RX7, "isNumber", "(J)Z"⟩
abbrev cX7_table : ByteArray := prog_9_method_17_code
def yX7_table : MethodName := ⟨RX7, "table", "(IJJJ)Z"⟩
abbrev cX7_gauge : ByteArray := prog_9_method_18_code
def yX7_gauge : MethodName := ⟨RX7, "gauge", "(I)I"⟩
abbrev cX7_collect : ByteArray := prog_9_method_19_code
def yX7_collect : MethodName := ⟨RX7, "collect", "()V"⟩
abbrev cX7_fits : ByteArray := prog_9_method_20_code
def yX7_fits : MethodName := ⟨RX7, "fits", "(IJ)Z"⟩
abbrev cX7_topOf : ByteArray := prog_9_method_21_code
def yX7_topOf : MethodName := ⟨RX7, "topOf", "(I)I"⟩
abbrev cX7_packExactly : ByteArray := prog_9_method_22_code
def yX7_packExactly : MethodName := ⟨RX7, "packExactly", "(J)I"⟩
abbrev cX7_packLongest : ByteArray := prog_9_method_23_code
def yX7_packLongest : MethodName := ⟨RX7, "packLongest", "(J)I"⟩
abbrev cX7_reel : ByteArray := prog_9_method_24_code
def yX7_reel : MethodName := ⟨RX7, "reel", "(J)I"⟩
abbrev cX7_reelOf : ByteArray := prog_9_method_25_code
def yX7_reelOf : MethodName := ⟨RX7, "reelOf", "(I)I"⟩
abbrev cX7_splice : ByteArray := prog_9_method_26_code
def yX7_splice : MethodName := ⟨RX7, "splice", "(II)I"⟩
abbrev cX7_joined : ByteArray := prog_9_method_27_code
def yX7_joined : MethodName := ⟨RX7, "joined", "(IIII)Z"⟩
abbrev cX7_meet : ByteArray := prog_9_method_28_code
def yX7_meet : MethodName := ⟨RX7, "meet", "(II)Z"⟩
abbrev cX7_colour : ByteArray := prog_9_method_29_code
def yX7_colour : MethodName := ⟨RX7, "colour", "(I)I"⟩
abbrev cX7_variant : ByteArray := prog_9_method_30_code
def yX7_variant : MethodName := ⟨RX7, "variant", "()I"⟩
abbrev cX7_isOn : ByteArray := prog_9_method_31_code
def yX7_isOn : MethodName := ⟨RX7, "isOn", "(II)Z"⟩
abbrev cX7_has : ByteArray := prog_9_method_32_code
def yX7_has : MethodName := ⟨RX7, "has", "(IIZ)Z"⟩
abbrev cX7_told : ByteArray := prog_9_method_33_code
def yX7_told : MethodName := ⟨RX7, "told", "(II)I"⟩
abbrev cX7_say : ByteArray := prog_9_method_34_code
def yX7_say : MethodName := ⟨RX7, "say", "(I)V"⟩
abbrev cX7_sayNumber : ByteArray := prog_9_method_35_code
def yX7_sayNumber : MethodName := ⟨RX7, "sayNumber", "(J)V"⟩
abbrev cX7_sayNode : ByteArray := prog_9_method_36_code
def yX7_sayNode : MethodName := ⟨RX7, "sayNode", "(I)V"⟩
abbrev cX7_command : ByteArray := prog_9_method_37_code
def yX7_command : MethodName := ⟨RX7, "command", "(II)I"⟩
def RJ5 : String := "java/lang/AbstractStringBuilder"
def TJ5 : u_T := fun k => match k with
  | _ => ("", "", "", false)
def tyJ5 : Nat → FieldType := fun k => match k with
  | _ => .int
abbrev wsJ50 : List Cond := u_ws RJ5 TJ5 0
theorem nmJ5 : ∀ a, a < 0 → ∀ b, b < 0 → a ≠ b → (TJ5 a).2.1 ≠ (TJ5 b).2.1 := by decide +kernel
theorem tyJ5_ok : ∀ k, k < 0 → parseFieldDescriptor (TJ5 k).2.2.1 = some (tyJ5 k) := by decide +kernel
abbrev cJ5_init_d00df : ByteArray := prog_10_method_2_code
def yJ5_init_d00df : MethodName := ⟨RJ5, "<init>", "(I)V"⟩
abbrev cJ5_length_8abf5 : ByteArray := prog_10_method_6_code
def yJ5_length_8abf5 : MethodName := ⟨RJ5, "length", "()I"⟩
abbrev cJ5_ensureCapacityInternal_d00df : ByteArray := prog_10_method_9_code
def yJ5_ensureCapacityInternal_d00df : MethodName := ⟨RJ5, "ensureCapacityInternal", "(I)V"⟩
abbrev cJ5_newCapacity_0f7a4 : ByteArray := prog_10_method_10_code
def yJ5_newCapacity_0f7a4 : MethodName := ⟨RJ5, "newCapacity", "(I)I"⟩
abbrev cJ5_inflate_da8c8 : ByteArray := prog_10_method_11_code
def yJ5_inflate_da8c8 : MethodName := ⟨RJ5, "inflate", "()V"⟩
abbrev cJ5_setLength_d00df : ByteArray := prog_10_method_13_code
def yJ5_setLength_d00df : MethodName := ⟨RJ5, "setLength", "(I)V"⟩
abbrev cJ5_charAt_5068e : ByteArray := prog_10_method_14_code
def yJ5_charAt_5068e : MethodName := ⟨RJ5, "charAt", "(I)C"⟩
abbrev cJ5_append_cf1ce : ByteArray := prog_10_method_22_code
def yJ5_append_cf1ce : MethodName := ⟨RJ5, "append", "(Ljava/lang/String;)Ljava/lang/AbstractStringBuilder;"⟩
abbrev cJ5_appendNull_278bc : ByteArray := prog_10_method_26_code
def yJ5_appendNull_278bc : MethodName := ⟨RJ5, "appendNull", "()Ljava/lang/AbstractStringBuilder;"⟩
abbrev cJ5_append_3fe6f : ByteArray := prog_10_method_31_code
def yJ5_append_3fe6f : MethodName := ⟨RJ5, "append", "(C)Ljava/lang/AbstractStringBuilder;"⟩
abbrev cJ5_append_c97b9 : ByteArray := prog_10_method_32_code
def yJ5_append_c97b9 : MethodName := ⟨RJ5, "append", "(I)Ljava/lang/AbstractStringBuilder;"⟩
abbrev cJ5_getValue_6d5f1 : ByteArray := prog_10_method_64_code
def yJ5_getValue_6d5f1 : MethodName := ⟨RJ5, "getValue", "()[B"⟩
abbrev cJ5_isLatin1_aae02 : ByteArray := prog_10_method_68_code
def yJ5_isLatin1_aae02 : MethodName := ⟨RJ5, "isLatin1", "()Z"⟩
abbrev cJ5_inflateIfNeededFor_a7421 : ByteArray := prog_10_method_71_code
def yJ5_inflateIfNeededFor_a7421 : MethodName := ⟨RJ5, "inflateIfNeededFor", "(Ljava/lang/String;)V"⟩
abbrev cJ5_putStringAt_47b60 : ByteArray := prog_10_method_73_code
def yJ5_putStringAt_47b60 : MethodName := ⟨RJ5, "putStringAt", "(ILjava/lang/String;)V"⟩
def RJx00060 : String := "java/lang/ArrayIndexOutOfBoundsException"
def TJx00060 : u_T := fun k => match k with
  | 0 => ("java/lang/Throwable", "cause", "Ljava/lang/Throwable;", false)
  | 1 => ("java/lang/Throwable", "stackTrace", "[Ljava/lang/StackTraceElement;", false)
  | 2 => ("java/lang/Throwable", "suppressedExceptions", "Ljava/util/List;", false)
  | 3 => ("java/lang/Throwable", "detailMessage", "Ljava/lang/String;", false)
  | 4 => ("java/lang/Throwable", "backtrace", "Ljava/lang/Object;", false)
  | _ => ("java/lang/Throwable", "depth", "I", false)
def tyJx00060 : Nat → FieldType := fun k => match k with
  | 0 => .object "java/lang/Throwable"
  | 1 => .array (.object "java/lang/StackTraceElement")
  | 2 => .object "java/util/List"
  | 3 => .object "java/lang/String"
  | 4 => .object "java/lang/Object"
  | _ => .int
abbrev wsJx000600 : List Cond := u_ws RJx00060 TJx00060 6
theorem nmJx00060 : ∀ a, a < 6 → ∀ b, b < 6 → a ≠ b → (TJx00060 a).2.1 ≠ (TJx00060 b).2.1 := by decide +kernel
theorem tyJx00060_ok : ∀ k, k < 6 → parseFieldDescriptor (TJx00060 k).2.2.1 = some (tyJx00060 k) := by decide +kernel
abbrev cJx00060_init_d00df : ByteArray := prog_11_method_3_code
def yJx00060_init_d00df : MethodName := ⟨RJx00060, "<init>", "(I)V"⟩
def RJx8e188 : String := "java/lang/Cloneable"
def TJx8e188 : u_T := fun k => match k with
  | _ => ("", "", "", false)
def tyJx8e188 : Nat → FieldType := fun k => match k with
  | _ => .int
abbrev wsJx8e1880 : List Cond := u_ws RJx8e188 TJx8e188 0
theorem nmJx8e188 : ∀ a, a < 0 → ∀ b, b < 0 → a ≠ b → (TJx8e188 a).2.1 ≠ (TJx8e188 b).2.1 := by decide +kernel
theorem tyJx8e188_ok : ∀ k, k < 0 → parseFieldDescriptor (TJx8e188 k).2.2.1 = some (tyJx8e188 k) := by decide +kernel
def RJ6 : String := "java/lang/Integer"
def TJ6 : u_T := fun k => match k with
  | _ => ("", "", "", false)
def tyJ6 : Nat → FieldType := fun k => match k with
  | _ => .int
abbrev wsJ60 : List Cond := u_ws RJ6 TJ6 0
theorem nmJ6 : ∀ a, a < 0 → ∀ b, b < 0 → a ≠ b → (TJ6 a).2.1 ≠ (TJ6 b).2.1 := by decide +kernel
theorem tyJ6_ok : ∀ k, k < 0 → parseFieldDescriptor (TJ6 k).2.2.1 = some (tyJ6 k) := by decide +kernel
abbrev cJ6_getChars_ba4f3 : ByteArray := prog_16_method_12_code
def yJ6_getChars_ba4f3 : MethodName := ⟨RJ6, "getChars", "(II[B)I"⟩
abbrev cJ6_stringSize_0f7a4 : ByteArray := prog_16_method_13_code
def yJ6_stringSize_0f7a4 : MethodName := ⟨RJ6, "stringSize", "(I)I"⟩
def RJ9 : String := "java/lang/Math"
def TJ9 : u_T := fun k => match k with
  | _ => ("", "", "", false)
def tyJ9 : Nat → FieldType := fun k => match k with
  | _ => .int
abbrev wsJ90 : List Cond := u_ws RJ9 TJ9 0
theorem nmJ9 : ∀ a, a < 0 → ∀ b, b < 0 → a ≠ b → (TJ9 a).2.1 ≠ (TJ9 b).2.1 := by decide +kernel
theorem tyJ9_ok : ∀ k, k < 0 → parseFieldDescriptor (TJ9 k).2.2.1 = some (tyJ9 k) := by decide +kernel
abbrev cJ9_max_7cf53 : ByteArray := prog_17_method_65_code
def yJ9_max_7cf53 : MethodName := ⟨RJ9, "max", "(II)I"⟩
abbrev cJ9_min_7cf53 : ByteArray := prog_17_method_69_code
def yJ9_min_7cf53 : MethodName := ⟨RJ9, "min", "(II)I"⟩
def RJ0 : String := "java/lang/String"
def TJ0 : u_T := fun k => match k with
  | 0 => ("java/lang/String", "value", "[B", true)
  | 1 => ("java/lang/String", "coder", "B", true)
  | 2 => ("java/lang/String", "hash", "I", false)
  | _ => ("java/lang/String", "hashIsZero", "Z", false)
def tyJ0 : Nat → FieldType := fun k => match k with
  | 0 => .array .byte
  | 1 => .byte
  | 2 => .int
  | _ => .boolean
abbrev wsJ00 : List Cond := u_ws RJ0 TJ0 4
theorem nmJ0 : ∀ a, a < 4 → ∀ b, b < 4 → a ≠ b → (TJ0 a).2.1 ≠ (TJ0 b).2.1 := by decide +kernel
theorem tyJ0_ok : ∀ k, k < 4 → parseFieldDescriptor (TJ0 k).2.2.1 = some (tyJ0 k) := by decide +kernel
abbrev cJ0_init_81219 : ByteArray := prog_19_method_53_code
def yJ0_init_81219 : MethodName := ⟨RJ0, "<init>", "(Ljava/lang/StringBuilder;)V"⟩
abbrev cJ0_length_8abf5 : ByteArray := prog_19_method_54_code
def yJ0_length_8abf5 : MethodName := ⟨RJ0, "length", "()I"⟩
abbrev cJ0_getBytes_840e7 : ByteArray := prog_19_method_147_code
def yJ0_getBytes_840e7 : MethodName := ⟨RJ0, "getBytes", "([BIB)V"⟩
abbrev cJ0_init_db425 : ByteArray := prog_19_method_150_code
def yJ0_init_db425 : MethodName := ⟨RJ0, "<init>", "(Ljava/lang/AbstractStringBuilder;Ljava/lang/Void;)V"⟩
abbrev cJ0_coder_7d493 : ByteArray := prog_19_method_152_code
def yJ0_coder_7d493 : MethodName := ⟨RJ0, "coder", "()B"⟩
abbrev cJ0_checkIndex_df160 : ByteArray := prog_19_method_155_code
def yJ0_checkIndex_df160 : MethodName := ⟨RJ0, "checkIndex", "(II)V"⟩
abbrev cJ0_checkBoundsOffCount_cabcc : ByteArray := prog_19_method_157_code
def yJ0_checkBoundsOffCount_cabcc : MethodName := ⟨RJ0, "checkBoundsOffCount", "(III)I"⟩
abbrev cJ0_checkBoundsBeginEnd_23922 : ByteArray := prog_19_method_158_code
def yJ0_checkBoundsBeginEnd_23922 : MethodName := ⟨RJ0, "checkBoundsBeginEnd", "(III)V"⟩
def RJ4 : String := "java/lang/StringBuilder"
def TJ4 : u_T := fun k => match k with
  | 0 => ("java/lang/AbstractStringBuilder", "value", "[B", false)
  | 1 => ("java/lang/AbstractStringBuilder", "coder", "B", false)
  | 2 => ("java/lang/AbstractStringBuilder", "maybeLatin1", "Z", false)
  | _ => ("java/lang/AbstractStringBuilder", "count", "I", false)
def tyJ4 : Nat → FieldType := fun k => match k with
  | 0 => .array .byte
  | 1 => .byte
  | 2 => .boolean
  | _ => .int
abbrev wsJ40 : List Cond := u_ws RJ4 TJ4 4
theorem nmJ4 : ∀ a, a < 4 → ∀ b, b < 4 → a ≠ b → (TJ4 a).2.1 ≠ (TJ4 b).2.1 := by decide +kernel
theorem tyJ4_ok : ∀ k, k < 4 → parseFieldDescriptor (TJ4 k).2.2.1 = some (tyJ4 k) := by decide +kernel
abbrev cJ4_init_da8c8 : ByteArray := prog_20_method_1_code
def yJ4_init_da8c8 : MethodName := ⟨RJ4, "<init>", "()V"⟩
abbrev cJ4_append_15ec4 : ByteArray := prog_20_method_7_code
def yJ4_append_15ec4 : MethodName := ⟨RJ4, "append", "(Ljava/lang/String;)Ljava/lang/StringBuilder;"⟩
abbrev cJ4_append_cf468 : ByteArray := prog_20_method_14_code
def yJ4_append_cf468 : MethodName := ⟨RJ4, "append", "(C)Ljava/lang/StringBuilder;"⟩
abbrev cJ4_append_bf812 : ByteArray := prog_20_method_15_code
def yJ4_append_bf812 : MethodName := ⟨RJ4, "append", "(I)Ljava/lang/StringBuilder;"⟩
abbrev cJ4_toString_0e30d : ByteArray := prog_20_method_42_code
def yJ4_toString_0e30d : MethodName := ⟨RJ4, "toString", "()Ljava/lang/String;"⟩
abbrev cJ4_charAt_5068e : ByteArray := prog_20_method_88_code
def yJ4_charAt_5068e : MethodName := ⟨RJ4, "charAt", "(I)C"⟩
abbrev cJ4_setLength_d00df : ByteArray := prog_20_method_89_code
def yJ4_setLength_d00df : MethodName := ⟨RJ4, "setLength", "(I)V"⟩
abbrev cJ4_length_8abf5 : ByteArray := prog_20_method_93_code
def yJ4_length_8abf5 : MethodName := ⟨RJ4, "length", "()I"⟩
def RJx7c733 : String := "java/lang/StringIndexOutOfBoundsException"
def TJx7c733 : u_T := fun k => match k with
  | 0 => ("java/lang/Throwable", "backtrace", "Ljava/lang/Object;", false)
  | 1 => ("java/lang/Throwable", "detailMessage", "Ljava/lang/String;", false)
  | 2 => ("java/lang/Throwable", "cause", "Ljava/lang/Throwable;", false)
  | 3 => ("java/lang/Throwable", "stackTrace", "[Ljava/lang/StackTraceElement;", false)
  | 4 => ("java/lang/Throwable", "depth", "I", false)
  | _ => ("java/lang/Throwable", "suppressedExceptions", "Ljava/util/List;", false)
def tyJx7c733 : Nat → FieldType := fun k => match k with
  | 0 => .object "java/lang/Object"
  | 1 => .object "java/lang/String"
  | 2 => .object "java/lang/Throwable"
  | 3 => .array (.object "java/lang/StackTraceElement")
  | 4 => .int
  | _ => .object "java/util/List"
abbrev wsJx7c7330 : List Cond := u_ws RJx7c733 TJx7c733 6
theorem nmJx7c733 : ∀ a, a < 6 → ∀ b, b < 6 → a ≠ b → (TJx7c733 a).2.1 ≠ (TJx7c733 b).2.1 := by decide +kernel
theorem tyJx7c733_ok : ∀ k, k < 6 → parseFieldDescriptor (TJx7c733 k).2.2.1 = some (tyJx7c733 k) := by decide +kernel
abbrev cJx7c733_init_d00df : ByteArray := prog_21_method_3_code
def yJx7c733_init_d00df : MethodName := ⟨RJx7c733, "<init>", "(I)V"⟩
def RJ1 : String := "java/lang/StringLatin1"
def TJ1 : u_T := fun k => match k with
  | _ => ("", "", "", false)
def tyJ1 : Nat → FieldType := fun k => match k with
  | _ => .int
abbrev wsJ10 : List Cond := u_ws RJ1 TJ1 0
theorem nmJ1 : ∀ a, a < 0 → ∀ b, b < 0 → a ≠ b → (TJ1 a).2.1 ≠ (TJ1 b).2.1 := by decide +kernel
theorem tyJ1_ok : ∀ k, k < 0 → parseFieldDescriptor (TJ1 k).2.2.1 = some (tyJ1 k) := by decide +kernel
abbrev cJ1_canEncode_fc78d : ByteArray := prog_22_method_3_code
def yJ1_canEncode_fc78d : MethodName := ⟨RJ1, "canEncode", "(C)Z"⟩
abbrev cJ1_fillNull_b72d1 : ByteArray := prog_22_method_48_code
def yJ1_fillNull_b72d1 : MethodName := ⟨RJ1, "fillNull", "([BII)V"⟩
abbrev cJ1_inflate_0e8fd : ByteArray := prog_22_method_50_code
def yJ1_inflate_0e8fd : MethodName := ⟨RJ1, "inflate", "([BI[BII)V"⟩
def RJ2 : String := "java/lang/StringUTF16"
def TJ2 : u_T := fun k => match k with
  | _ => ("", "", "", false)
def tyJ2 : Nat → FieldType := fun k => match k with
  | _ => .int
abbrev wsJ20 : List Cond := u_ws RJ2 TJ2 0
theorem nmJ2 : ∀ a, a < 0 → ∀ b, b < 0 → a ≠ b → (TJ2 a).2.1 ≠ (TJ2 b).2.1 := by decide +kernel
theorem tyJ2_ok : ∀ k, k < 0 → parseFieldDescriptor (TJ2 k).2.2.1 = some (tyJ2 k) := by decide +kernel
abbrev cJ2_newBytesFor_77867 : ByteArray := prog_23_method_2_code
def yJ2_newBytesFor_77867 : MethodName := ⟨RJ2, "newBytesFor", "(I)[B"⟩
abbrev cJ2_newBytesLength_0f7a4 : ByteArray := prog_23_method_3_code
def yJ2_newBytesLength_0f7a4 : MethodName := ⟨RJ2, "newBytesLength", "(I)I"⟩
abbrev cJ2_putChar_b72d1 : ByteArray := prog_23_method_4_code
def yJ2_putChar_b72d1 : MethodName := ⟨RJ2, "putChar", "([BII)V"⟩
abbrev cJ2_getChar_3b067 : ByteArray := prog_23_method_5_code
def yJ2_getChar_3b067 : MethodName := ⟨RJ2, "getChar", "([BI)C"⟩
abbrev cJ2_length_9d52b : ByteArray := prog_23_method_6_code
def yJ2_length_9d52b : MethodName := ⟨RJ2, "length", "([B)I"⟩
abbrev cJ2_coderFromArrayLen_85cad : ByteArray := prog_23_method_15_code
def yJ2_coderFromArrayLen_85cad : MethodName := ⟨RJ2, "coderFromArrayLen", "([BI)B"⟩
abbrev cJ2_compress_39247 : ByteArray := prog_23_method_17_code
def yJ2_compress_39247 : MethodName := ⟨RJ2, "compress", "([BII)[B"⟩
abbrev cJ2_compress_5af95 : ByteArray := prog_23_method_22_code
def yJ2_compress_5af95 : MethodName := ⟨RJ2, "compress", "([BI[BII)I"⟩
abbrev cJ2_fillNull_b72d1 : ByteArray := prog_23_method_70_code
def yJ2_fillNull_b72d1 : MethodName := ⟨RJ2, "fillNull", "([BII)V"⟩
abbrev cJ2_putCharSB_b72d1 : ByteArray := prog_23_method_71_code
def yJ2_putCharSB_b72d1 : MethodName := ⟨RJ2, "putCharSB", "([BII)V"⟩
abbrev cJ2_getChars_46870 : ByteArray := prog_23_method_77_code
def yJ2_getChars_46870 : MethodName := ⟨RJ2, "getChars", "(III[B)I"⟩
abbrev cJ2_putCharsAt_cd4e5 : ByteArray := prog_23_method_81_code
def yJ2_putCharsAt_cd4e5 : MethodName := ⟨RJ2, "putCharsAt", "([BICCCC)I"⟩
abbrev cJ2_inflate_0e8fd : ByteArray := prog_23_method_86_code
def yJ2_inflate_0e8fd : MethodName := ⟨RJ2, "inflate", "([BI[BII)V"⟩
abbrev cJ2_getChars_ba4f3 : ByteArray := prog_23_method_89_code
def yJ2_getChars_ba4f3 : MethodName := ⟨RJ2, "getChars", "(II[B)I"⟩
abbrev cJ2_checkIndex_2214a : ByteArray := prog_23_method_91_code
def yJ2_checkIndex_2214a : MethodName := ⟨RJ2, "checkIndex", "(I[B)V"⟩
abbrev cJ2_checkBoundsBeginEnd_d044e : ByteArray := prog_23_method_93_code
def yJ2_checkBoundsBeginEnd_d044e : MethodName := ⟨RJ2, "checkBoundsBeginEnd", "(II[B)V"⟩
abbrev cJ2_checkBoundsOffCount_d044e : ByteArray := prog_23_method_94_code
def yJ2_checkBoundsOffCount_d044e : MethodName := ⟨RJ2, "checkBoundsOffCount", "(II[B)V"⟩
def RJ10 : String := "java/lang/System"
def TJ10 : u_T := fun k => match k with
  | _ => ("", "", "", false)
def tyJ10 : Nat → FieldType := fun k => match k with
  | _ => .int
abbrev wsJ100 : List Cond := u_ws RJ10 TJ10 0
theorem nmJ10 : ∀ a, a < 0 → ∀ b, b < 0 → a ≠ b → (TJ10 a).2.1 ≠ (TJ10 b).2.1 := by decide +kernel
theorem tyJ10_ok : ∀ k, k < 0 → parseFieldDescriptor (TJ10 k).2.2.1 = some (tyJ10 k) := by decide +kernel
def RJ7 : String := "java/util/Arrays"
def TJ7 : u_T := fun k => match k with
  | _ => ("", "", "", false)
def tyJ7 : Nat → FieldType := fun k => match k with
  | _ => .int
abbrev wsJ70 : List Cond := u_ws RJ7 TJ7 0
theorem nmJ7 : ∀ a, a < 0 → ∀ b, b < 0 → a ≠ b → (TJ7 a).2.1 ≠ (TJ7 b).2.1 := by decide +kernel
theorem tyJ7_ok : ∀ k, k < 0 → parseFieldDescriptor (TJ7 k).2.2.1 = some (tyJ7 k) := by decide +kernel
abbrev cJ7_rangeCheck_23922 : ByteArray := prog_26_method_30_code
def yJ7_rangeCheck_23922 : MethodName := ⟨RJ7, "rangeCheck", "(III)V"⟩
abbrev cJ7_fill_d0a16 : ByteArray := prog_26_method_101_code
def yJ7_fill_d0a16 : MethodName := ⟨RJ7, "fill", "([JJ)V"⟩
abbrev cJ7_fill_53178 : ByteArray := prog_26_method_103_code
def yJ7_fill_53178 : MethodName := ⟨RJ7, "fill", "([II)V"⟩
abbrev cJ7_fill_eb02e : ByteArray := prog_26_method_110_code
def yJ7_fill_eb02e : MethodName := ⟨RJ7, "fill", "([BIIB)V"⟩
abbrev cJ7_copyOf_9075b : ByteArray := prog_26_method_121_code
def yJ7_copyOf_9075b : MethodName := ⟨RJ7, "copyOf", "([BI)[B"⟩
abbrev cJ7_checkLength_df160 : ByteArray := prog_26_method_131_code
def yJ7_checkLength_df160 : MethodName := ⟨RJ7, "checkLength", "(II)V"⟩
abbrev cJ7_copyOfRange_39247 : ByteArray := prog_26_method_132_code
def yJ7_copyOfRange_39247 : MethodName := ⟨RJ7, "copyOfRange", "([BII)[B"⟩
abbrev cJ7_copyOfRangeByte_39247 : ByteArray := prog_26_method_133_code
def yJ7_copyOfRangeByte_39247 : MethodName := ⟨RJ7, "copyOfRangeByte", "([BII)[B"⟩
def RJ8 : String := "jdk/internal/util/ArraysSupport"
def TJ8 : u_T := fun k => match k with
  | _ => ("", "", "", false)
def tyJ8 : Nat → FieldType := fun k => match k with
  | _ => .int
abbrev wsJ80 : List Cond := u_ws RJ8 TJ8 0
theorem nmJ8 : ∀ a, a < 0 → ∀ b, b < 0 → a ≠ b → (TJ8 a).2.1 ≠ (TJ8 b).2.1 := by decide +kernel
theorem tyJ8_ok : ∀ k, k < 0 → parseFieldDescriptor (TJ8 k).2.2.1 = some (tyJ8 k) := by decide +kernel
abbrev cJ8_newLength_cabcc : ByteArray := prog_27_method_27_code
def yJ8_newLength_cabcc : MethodName := ⟨RJ8, "newLength", "(III)I"⟩
abbrev cJ8_hugeLength_7cf53 : ByteArray := prog_27_method_28_code
def yJ8_hugeLength_7cf53 : MethodName := ⟨RJ8, "hugeLength", "(II)I"⟩
def RJ3 : String := "jdk/internal/util/Preconditions"
def TJ3 : u_T := fun k => match k with
  | _ => ("", "", "", false)
def tyJ3 : Nat → FieldType := fun k => match k with
  | _ => .int
abbrev wsJ30 : List Cond := u_ws RJ3 TJ3 0
theorem nmJ3 : ∀ a, a < 0 → ∀ b, b < 0 → a ≠ b → (TJ3 a).2.1 ≠ (TJ3 b).2.1 := by decide +kernel
theorem tyJ3_ok : ∀ k, k < 0 → parseFieldDescriptor (TJ3 k).2.2.1 = some (tyJ3 k) := by decide +kernel
abbrev cJ3_checkIndex_8e157 : ByteArray := prog_28_method_11_code
def yJ3_checkIndex_8e157 : MethodName := ⟨RJ3, "checkIndex", "(IILjava/util/function/BiFunction;)I"⟩
abbrev cJ3_checkFromToIndex_8c36e : ByteArray := prog_28_method_12_code
def yJ3_checkFromToIndex_8c36e : MethodName := ⟨RJ3, "checkFromToIndex", "(IIILjava/util/function/BiFunction;)I"⟩
abbrev cJ3_checkFromIndexSize_8c36e : ByteArray := prog_28_method_13_code
def yJ3_checkFromIndexSize_8c36e : MethodName := ⟨RJ3, "checkFromIndexSize", "(IIILjava/util/function/BiFunction;)I"⟩
def RL : String := "HarnessRowsLaw"
abbrev cL_connector : ByteArray := method_3_code
def yL_connector : MethodName := ⟨RL, "connector", "(LHarnessRows;I[J)I"⟩
abbrev cL_bundle : ByteArray := method_4_code
def yL_bundle : MethodName := ⟨RL, "bundle", "(LHarnessRows;IIJ[J)I"⟩
abbrev cL_wire : ByteArray := method_5_code
def yL_wire : MethodName := ⟨RL, "wire", "(LHarnessRows;IIII[J)I"⟩
abbrev cL_load : ByteArray := method_6_code
def yL_load : MethodName := ⟨RL, "load", "(LHarnessRows;IJJ[J)I"⟩
abbrev cL_gauge : ByteArray := method_7_code
def yL_gauge : MethodName := ⟨RL, "gauge", "(LHarnessRows;I[J)I"⟩
abbrev cL_table : ByteArray := method_8_code
def yL_table : MethodName := ⟨RL, "table", "(LHarnessRows;IJJJ[J)I"⟩
abbrev cL_length : ByteArray := method_9_code
def yL_length : MethodName := ⟨RL, "length", "(LHarnessRows;I[J)I"⟩
abbrev cL_slack : ByteArray := method_10_code
def yL_slack : MethodName := ⟨RL, "slack", "(LHarnessRows;JJ[J)I"⟩
abbrev cL_reel : ByteArray := method_11_code
def yL_reel : MethodName := ⟨RL, "reel", "(LHarnessRows;J[J)I"⟩
abbrev cL_reelOf : ByteArray := method_12_code
def yL_reelOf : MethodName := ⟨RL, "reelOf", "(LHarnessRows;I[J)I"⟩
abbrev cL_splice : ByteArray := method_13_code
def yL_splice : MethodName := ⟨RL, "splice", "(LHarnessRows;II[J)I"⟩
abbrev cL_joined : ByteArray := method_14_code
def yL_joined : MethodName := ⟨RL, "joined", "(LHarnessRows;IIII[J)I"⟩
abbrev cL_colour : ByteArray := method_15_code
def yL_colour : MethodName := ⟨RL, "colour", "(LHarnessRows;I[J)I"⟩
abbrev cL_has : ByteArray := method_16_code
def yL_has : MethodName := ⟨RL, "has", "(LHarnessRows;IIZ[J)I"⟩
abbrev cL_told : ByteArray := method_17_code
def yL_told : MethodName := ⟨RL, "told", "(LHarnessRows;II[J)I"⟩
abbrev cL_command : ByteArray := method_18_code
def yL_command : MethodName := ⟨RL, "command", "(LHarnessRows;II[J)I"⟩
abbrev cL_law : ByteArray := code
def yL_law : MethodName := ⟨RL, "law", "([I)Z"⟩
def wsJ7_fill_53178 : List Cond := .code yJ7_fill_53178 cJ7_fill_53178 4 none :: ([])
def wsX0_init : List Cond := .code yX0_init cX0_init 1 none :: ([.methodLink RX0 3 objectInit, .instanceMethod objectInit, .code objectInit ⟨#[0xb1]⟩ 1 none, .arrayClass .int, .fieldLink RX0 9 "HarnessRows$Reels" "reelOfWire" "[I", .fieldLink RX0 15 "HarnessRows$Reels" "wireOfPiece" "[I", .arrayClass .long, .fieldLink RX0 18 "HarnessRows$Reels" "cuts" "[J", .fieldLink RX0 22 "HarnessRows$Reels" "filled" "[J", .fieldLink RX0 25 "HarnessRows$Reels" "trial" "[I", .fieldLink RX0 28 "HarnessRows$Reels" "pieces" "I", .fieldLink RX0 32 "HarnessRows$Reels" "fewest" "I", .fieldLink RX0 35 "HarnessRows$Reels" "reelLength" "J", .methodLink RX0 39 yJ7_fill_53178, .static yJ7_fill_53178, .initialized RJ7, .code yJ7_fill_53178 cJ7_fill_53178 4 none] ++ wsX00)
def wsX0_numberOf : List Cond := .code yX0_numberOf cX0_numberOf 2 (some .int) :: ([.fieldLink RX0 9 "HarnessRows$Reels" "reelOfWire" "[I"] ++ wsX00 ++ (vx_atM "java/lang/ArrayIndexOutOfBoundsException" ["java/lang/IndexOutOfBoundsException", "java/lang/RuntimeException", "java/lang/Exception"]).filter goodWord)
def wsJ7_fill_d0a16 : List Cond := .code yJ7_fill_d0a16 cJ7_fill_d0a16 5 none :: ([])
def wsX0_begin : List Cond := .code yX0_begin cX0_begin 1 none :: ([.fieldLink RX0 9 "HarnessRows$Reels" "reelOfWire" "[I", .fieldLink RX0 22 "HarnessRows$Reels" "filled" "[J", .fieldLink RX0 28 "HarnessRows$Reels" "pieces" "I", .methodLink RX0 39 yJ7_fill_53178, .static yJ7_fill_53178, .initialized RJ7, .code yJ7_fill_53178 cJ7_fill_53178 4 none, .methodLink RX0 45 yJ7_fill_d0a16, .static yJ7_fill_d0a16, .code yJ7_fill_d0a16 cJ7_fill_d0a16 5 none] ++ wsX00)
def wsX0_addPiece : List Cond := .code yX0_addPiece cX0_addPiece 4 none :: ([.fieldLink RX0 28 "HarnessRows$Reels" "pieces" "I", .fieldLink RX0 15 "HarnessRows$Reels" "wireOfPiece" "[I", .fieldLink RX0 18 "HarnessRows$Reels" "cuts" "[J"] ++ wsX00 ++ (vx_atM "java/lang/ArrayIndexOutOfBoundsException" ["java/lang/IndexOutOfBoundsException", "java/lang/RuntimeException", "java/lang/Exception"]).filter goodWord)
def wsX0_keepTrial : List Cond := .code yX0_keepTrial cX0_keepTrial 3 none :: ([.fieldLink RX0 32 "HarnessRows$Reels" "fewest" "I", .fieldLink RX0 28 "HarnessRows$Reels" "pieces" "I", .fieldLink RX0 9 "HarnessRows$Reels" "reelOfWire" "[I", .fieldLink RX0 15 "HarnessRows$Reels" "wireOfPiece" "[I", .fieldLink RX0 25 "HarnessRows$Reels" "trial" "[I"] ++ wsX00 ++ (vx_atM "java/lang/ArrayIndexOutOfBoundsException" ["java/lang/IndexOutOfBoundsException", "java/lang/RuntimeException", "java/lang/Exception"]).filter goodWord)
def wsX0_hasRoom : List Cond := .code yX0_hasRoom cX0_hasRoom 3 (some .boolean) :: ([.fieldLink RX0 22 "HarnessRows$Reels" "filled" "[J", .fieldLink RX0 18 "HarnessRows$Reels" "cuts" "[J", .fieldLink RX0 35 "HarnessRows$Reels" "reelLength" "J"] ++ wsX00 ++ (vx_atM "java/lang/ArrayIndexOutOfBoundsException" ["java/lang/IndexOutOfBoundsException", "java/lang/RuntimeException", "java/lang/Exception"]).filter goodWord)
def wsX0_placeFrom_r1 : List Cond := [Cond.fieldLink RX0 32 "HarnessRows$Reels" "fewest" "I", Cond.fieldLink RX0 28 "HarnessRows$Reels" "pieces" "I", Cond.methodLink RX0 59 yX0_keepTrial, Cond.instanceMethod yX0_keepTrial, Cond.selects RX0 yX0_keepTrial yX0_keepTrial, Cond.initialized RX0, Cond.code yX0_keepTrial cX0_keepTrial 3 none, Cond.fieldLink RX0 9 "HarnessRows$Reels" "reelOfWire" "[I", Cond.fieldLink RX0 15 "HarnessRows$Reels" "wireOfPiece" "[I", Cond.fieldLink RX0 25 "HarnessRows$Reels" "trial" "[I", Cond.methodLink RX0 63 yX0_placeOn, Cond.instanceMethod yX0_placeOn, Cond.selects RX0 yX0_placeOn yX0_placeOn, Cond.code yX0_placeOn cX0_placeOn 4 none, Cond.fieldLink RX0 22 "HarnessRows$Reels" "filled" "[J", Cond.fieldLink RX0 18 "HarnessRows$Reels" "cuts" "[J", Cond.methodLink RX0 71 Lib.Math.max.name, Cond.static Lib.Math.max.name, Cond.initialized "java/lang/Math", Cond.code Lib.Math.max.name Lib.Math.max.code 2 (some .int), Cond.methodLink RX0 67 yX0_hasRoom, Cond.instanceMethod yX0_hasRoom, Cond.selects RX0 yX0_hasRoom yX0_hasRoom, Cond.code yX0_hasRoom cX0_hasRoom 3 (some .boolean)]
def wsX0_placeFrom_r2 : List Cond := [Cond.fieldLink RX0 35 "HarnessRows$Reels" "reelLength" "J", Cond.methodLink RX0 55 yX0_placeFrom, Cond.instanceMethod yX0_placeFrom, Cond.selects RX0 yX0_placeFrom yX0_placeFrom]
def wsX0_placeFrom : List Cond := .code yX0_placeFrom cX0_placeFrom 4 none :: ((wsX0_placeFrom_r1 ++ wsX0_placeFrom_r2) ++ wsX00 ++ (vx_atM "java/lang/ArrayIndexOutOfBoundsException" ["java/lang/IndexOutOfBoundsException", "java/lang/RuntimeException", "java/lang/Exception"]).filter goodWord)
def wsX0_placeOn_r1 : List Cond := [Cond.fieldLink RX0 22 "HarnessRows$Reels" "filled" "[J", Cond.fieldLink RX0 18 "HarnessRows$Reels" "cuts" "[J", Cond.fieldLink RX0 25 "HarnessRows$Reels" "trial" "[I", Cond.methodLink RX0 71 Lib.Math.max.name, Cond.static Lib.Math.max.name, Cond.initialized "java/lang/Math", Cond.code Lib.Math.max.name Lib.Math.max.code 2 (some .int), Cond.methodLink RX0 67 yX0_hasRoom, Cond.instanceMethod yX0_hasRoom, Cond.selects RX0 yX0_hasRoom yX0_hasRoom, Cond.initialized RX0, Cond.code yX0_hasRoom cX0_hasRoom 3 (some .boolean), Cond.fieldLink RX0 35 "HarnessRows$Reels" "reelLength" "J", Cond.methodLink RX0 55 yX0_placeFrom, Cond.instanceMethod yX0_placeFrom, Cond.selects RX0 yX0_placeFrom yX0_placeFrom, Cond.code yX0_placeFrom cX0_placeFrom 4 none, Cond.fieldLink RX0 32 "HarnessRows$Reels" "fewest" "I", Cond.fieldLink RX0 28 "HarnessRows$Reels" "pieces" "I", Cond.methodLink RX0 59 yX0_keepTrial, Cond.instanceMethod yX0_keepTrial, Cond.selects RX0 yX0_keepTrial yX0_keepTrial, Cond.code yX0_keepTrial cX0_keepTrial 3 none, Cond.fieldLink RX0 9 "HarnessRows$Reels" "reelOfWire" "[I"]
def wsX0_placeOn_r2 : List Cond := [Cond.fieldLink RX0 15 "HarnessRows$Reels" "wireOfPiece" "[I", Cond.methodLink RX0 63 yX0_placeOn, Cond.instanceMethod yX0_placeOn, Cond.selects RX0 yX0_placeOn yX0_placeOn]
def wsX0_placeOn : List Cond := .code yX0_placeOn cX0_placeOn 4 none :: ((wsX0_placeOn_r1 ++ wsX0_placeOn_r2) ++ wsX00 ++ (vx_atM "java/lang/ArrayIndexOutOfBoundsException" ["java/lang/IndexOutOfBoundsException", "java/lang/RuntimeException", "java/lang/Exception"]).filter goodWord)
def wsX0_packOnFewest_r1 : List Cond := [Cond.fieldLink RX0 28 "HarnessRows$Reels" "pieces" "I", Cond.fieldLink RX0 32 "HarnessRows$Reels" "fewest" "I", Cond.methodLink RX0 55 yX0_placeFrom, Cond.instanceMethod yX0_placeFrom, Cond.selects RX0 yX0_placeFrom yX0_placeFrom, Cond.initialized RX0, Cond.code yX0_placeFrom cX0_placeFrom 4 none, Cond.methodLink RX0 59 yX0_keepTrial, Cond.instanceMethod yX0_keepTrial, Cond.selects RX0 yX0_keepTrial yX0_keepTrial, Cond.code yX0_keepTrial cX0_keepTrial 3 none, Cond.fieldLink RX0 9 "HarnessRows$Reels" "reelOfWire" "[I", Cond.fieldLink RX0 15 "HarnessRows$Reels" "wireOfPiece" "[I", Cond.fieldLink RX0 25 "HarnessRows$Reels" "trial" "[I", Cond.methodLink RX0 63 yX0_placeOn, Cond.instanceMethod yX0_placeOn, Cond.selects RX0 yX0_placeOn yX0_placeOn, Cond.code yX0_placeOn cX0_placeOn 4 none, Cond.fieldLink RX0 22 "HarnessRows$Reels" "filled" "[J", Cond.fieldLink RX0 18 "HarnessRows$Reels" "cuts" "[J", Cond.methodLink RX0 71 Lib.Math.max.name, Cond.static Lib.Math.max.name, Cond.initialized "java/lang/Math", Cond.code Lib.Math.max.name Lib.Math.max.code 2 (some .int)]
def wsX0_packOnFewest_r2 : List Cond := [Cond.methodLink RX0 67 yX0_hasRoom, Cond.instanceMethod yX0_hasRoom, Cond.selects RX0 yX0_hasRoom yX0_hasRoom, Cond.code yX0_hasRoom cX0_hasRoom 3 (some .boolean), Cond.fieldLink RX0 35 "HarnessRows$Reels" "reelLength" "J"]
def wsX0_packOnFewest : List Cond := .code yX0_packOnFewest cX0_packOnFewest 1 (some .int) :: ((wsX0_packOnFewest_r1 ++ wsX0_packOnFewest_r2) ++ wsX00 ++ (vx_atM "java/lang/ArrayIndexOutOfBoundsException" ["java/lang/IndexOutOfBoundsException", "java/lang/RuntimeException", "java/lang/Exception"]).filter goodWord)
def wsX0_longestLeft : List Cond := .code yX0_longestLeft cX0_longestLeft 4 (some .int) :: ([.fieldLink RX0 28 "HarnessRows$Reels" "pieces" "I", .fieldLink RX0 9 "HarnessRows$Reels" "reelOfWire" "[I", .fieldLink RX0 15 "HarnessRows$Reels" "wireOfPiece" "[I", .fieldLink RX0 18 "HarnessRows$Reels" "cuts" "[J"] ++ wsX00 ++ (vx_atM "java/lang/ArrayIndexOutOfBoundsException" ["java/lang/IndexOutOfBoundsException", "java/lang/RuntimeException", "java/lang/Exception"]).filter goodWord)
def wsX0_lowestWithRoom : List Cond := .code yX0_lowestWithRoom cX0_lowestWithRoom 3 (some .int) :: ([.methodLink RX0 67 yX0_hasRoom, .instanceMethod yX0_hasRoom, .selects RX0 yX0_hasRoom yX0_hasRoom, .initialized RX0, .code yX0_hasRoom cX0_hasRoom 3 (some .boolean), .fieldLink RX0 22 "HarnessRows$Reels" "filled" "[J", .fieldLink RX0 18 "HarnessRows$Reels" "cuts" "[J", .fieldLink RX0 35 "HarnessRows$Reels" "reelLength" "J"] ++ wsX00 ++ (vx_atM "java/lang/ArrayIndexOutOfBoundsException" ["java/lang/IndexOutOfBoundsException", "java/lang/RuntimeException", "java/lang/Exception"]).filter goodWord)
def wsX0_packLongestFirst : List Cond := .code yX0_packLongestFirst cX0_packLongestFirst 5 (some .int) :: ([.fieldLink RX0 28 "HarnessRows$Reels" "pieces" "I", .fieldLink RX0 22 "HarnessRows$Reels" "filled" "[J", .fieldLink RX0 18 "HarnessRows$Reels" "cuts" "[J", .fieldLink RX0 9 "HarnessRows$Reels" "reelOfWire" "[I", .fieldLink RX0 15 "HarnessRows$Reels" "wireOfPiece" "[I", .methodLink RX0 71 Lib.Math.max.name, .static Lib.Math.max.name, .initialized "java/lang/Math", .code Lib.Math.max.name Lib.Math.max.code 2 (some .int), .methodLink RX0 77 yX0_longestLeft, .instanceMethod yX0_longestLeft, .selects RX0 yX0_longestLeft yX0_longestLeft, .initialized RX0, .code yX0_longestLeft cX0_longestLeft 4 (some .int), .methodLink RX0 80 yX0_lowestWithRoom, .instanceMethod yX0_lowestWithRoom, .selects RX0 yX0_lowestWithRoom yX0_lowestWithRoom, .code yX0_lowestWithRoom cX0_lowestWithRoom 3 (some .int), .methodLink RX0 67 yX0_hasRoom, .instanceMethod yX0_hasRoom, .selects RX0 yX0_hasRoom yX0_hasRoom, .code yX0_hasRoom cX0_hasRoom 3 (some .boolean), .fieldLink RX0 35 "HarnessRows$Reels" "reelLength" "J"] ++ wsX00 ++ (vx_atM "java/lang/ArrayIndexOutOfBoundsException" ["java/lang/IndexOutOfBoundsException", "java/lang/RuntimeException", "java/lang/Exception"]).filter goodWord)
def wsX0_pack_r1 : List Cond := [Cond.fieldLink RX0 35 "HarnessRows$Reels" "reelLength" "J", Cond.fieldLink RX0 28 "HarnessRows$Reels" "pieces" "I", Cond.fieldLink RX0 18 "HarnessRows$Reels" "cuts" "[J", Cond.methodLink RX0 48 yX0_packOnFewest, Cond.instanceMethod yX0_packOnFewest, Cond.selects RX0 yX0_packOnFewest yX0_packOnFewest, Cond.initialized RX0, Cond.code yX0_packOnFewest cX0_packOnFewest 1 (some .int), Cond.fieldLink RX0 32 "HarnessRows$Reels" "fewest" "I", Cond.methodLink RX0 55 yX0_placeFrom, Cond.instanceMethod yX0_placeFrom, Cond.selects RX0 yX0_placeFrom yX0_placeFrom, Cond.code yX0_placeFrom cX0_placeFrom 4 none, Cond.methodLink RX0 59 yX0_keepTrial, Cond.instanceMethod yX0_keepTrial, Cond.selects RX0 yX0_keepTrial yX0_keepTrial, Cond.code yX0_keepTrial cX0_keepTrial 3 none, Cond.fieldLink RX0 9 "HarnessRows$Reels" "reelOfWire" "[I", Cond.fieldLink RX0 15 "HarnessRows$Reels" "wireOfPiece" "[I", Cond.fieldLink RX0 25 "HarnessRows$Reels" "trial" "[I", Cond.methodLink RX0 63 yX0_placeOn, Cond.instanceMethod yX0_placeOn, Cond.selects RX0 yX0_placeOn yX0_placeOn, Cond.code yX0_placeOn cX0_placeOn 4 none]
def wsX0_pack_r2 : List Cond := [Cond.fieldLink RX0 22 "HarnessRows$Reels" "filled" "[J", Cond.methodLink RX0 71 Lib.Math.max.name, Cond.static Lib.Math.max.name, Cond.initialized "java/lang/Math", Cond.code Lib.Math.max.name Lib.Math.max.code 2 (some .int), Cond.methodLink RX0 67 yX0_hasRoom, Cond.instanceMethod yX0_hasRoom, Cond.selects RX0 yX0_hasRoom yX0_hasRoom, Cond.code yX0_hasRoom cX0_hasRoom 3 (some .boolean), Cond.methodLink RX0 52 yX0_packLongestFirst, Cond.instanceMethod yX0_packLongestFirst, Cond.selects RX0 yX0_packLongestFirst yX0_packLongestFirst, Cond.code yX0_packLongestFirst cX0_packLongestFirst 5 (some .int), Cond.methodLink RX0 77 yX0_longestLeft, Cond.instanceMethod yX0_longestLeft, Cond.selects RX0 yX0_longestLeft yX0_longestLeft, Cond.code yX0_longestLeft cX0_longestLeft 4 (some .int), Cond.methodLink RX0 80 yX0_lowestWithRoom, Cond.instanceMethod yX0_lowestWithRoom, Cond.selects RX0 yX0_lowestWithRoom yX0_lowestWithRoom, Cond.code yX0_lowestWithRoom cX0_lowestWithRoom 3 (some .int)]
def wsX0_pack : List Cond := .code yX0_pack cX0_pack 4 (some .int) :: ((wsX0_pack_r1 ++ wsX0_pack_r2) ++ wsX00 ++ (vx_atM "java/lang/ArrayIndexOutOfBoundsException" ["java/lang/IndexOutOfBoundsException", "java/lang/RuntimeException", "java/lang/Exception"]).filter goodWord)
def wsX1_init : List Cond := .code yX1_init cX1_init 2 none :: ([.methodLink RX1 3 objectInit, .instanceMethod objectInit, .code objectInit ⟨#[0xb1]⟩ 1 none, .arrayClass .int, .fieldLink RX1 9 "HarnessRows$Splices" "partners" "[I", .fieldLink RX1 15 "HarnessRows$Splices" "groups" "[I", .fieldLink RX1 18 "HarnessRows$Splices" "spliceCount" "I"] ++ wsX10 ++ (vx_atM "java/lang/ArrayIndexOutOfBoundsException" ["java/lang/IndexOutOfBoundsException", "java/lang/RuntimeException", "java/lang/Exception"]).filter goodWord)
def wsX1_inOneGroup : List Cond := .code yX1_inOneGroup cX1_inOneGroup 3 (some .boolean) :: ([.fieldLink RX1 15 "HarnessRows$Splices" "groups" "[I"] ++ wsX10 ++ (vx_atM "java/lang/ArrayIndexOutOfBoundsException" ["java/lang/IndexOutOfBoundsException", "java/lang/RuntimeException", "java/lang/Exception"]).filter goodWord)
def wsX6_hasBit : List Cond := .code yX6_hasBit cX6_hasBit 2 (some .boolean) :: ([])
def wsX1_mergeGroups : List Cond := .code yX1_mergeGroups cX1_mergeGroups 4 none :: ([.fieldLink RX1 15 "HarnessRows$Splices" "groups" "[I"] ++ wsX10 ++ (vx_atM "java/lang/ArrayIndexOutOfBoundsException" ["java/lang/IndexOutOfBoundsException", "java/lang/RuntimeException", "java/lang/Exception"]).filter goodWord)
def wsX1_add : List Cond := .code yX1_add cX1_add 3 (some .int) :: ([.fieldLink RX1 18 "HarnessRows$Splices" "spliceCount" "I", .fieldLink RX1 9 "HarnessRows$Splices" "partners" "[I", .fieldLink RX1 15 "HarnessRows$Splices" "groups" "[I", .static yX6_hasBit, .initialized RX6, .code yX6_hasBit cX6_hasBit 2 (some .boolean), .methodLink RX1 26 yX1_mergeGroups, .instanceMethod yX1_mergeGroups, .selects RX1 yX1_mergeGroups yX1_mergeGroups, .initialized RX1, .code yX1_mergeGroups cX1_mergeGroups 4 none] ++ wsX10 ++ (vx_atM "java/lang/ArrayIndexOutOfBoundsException" ["java/lang/IndexOutOfBoundsException", "java/lang/RuntimeException", "java/lang/Exception"]).filter goodWord)
def wsX2_init : List Cond := .code yX2_init cX2_init 1 none :: ([.methodLink RX2 3 objectInit, .instanceMethod objectInit, .code objectInit ⟨#[0xb1]⟩ 1 none, .arrayClass .long, .fieldLink RX2 9 "HarnessRows$Table" "areas" "[J", .fieldLink RX2 15 "HarnessRows$Table" "milliamperes" "[J", .fieldLink RX2 18 "HarnessRows$Table" "microohms" "[J"] ++ wsX20)
def wsX2_tellRow : List Cond := .code yX2_tellRow cX2_tellRow 9 (some .boolean) :: ([.fieldLink RX2 9 "HarnessRows$Table" "areas" "[J", .fieldLink RX2 15 "HarnessRows$Table" "milliamperes" "[J", .fieldLink RX2 18 "HarnessRows$Table" "microohms" "[J"] ++ wsX20 ++ (vx_atM "java/lang/ArrayIndexOutOfBoundsException" ["java/lang/IndexOutOfBoundsException", "java/lang/RuntimeException", "java/lang/Exception"]).filter goodWord)
def wsX2_willDo : List Cond := .code yX2_willDo cX2_willDo 8 (some .boolean) :: ([.fieldLink RX2 9 "HarnessRows$Table" "areas" "[J", .fieldLink RX2 15 "HarnessRows$Table" "milliamperes" "[J", .fieldLink RX2 18 "HarnessRows$Table" "microohms" "[J", .constantLong RX2 27 (1000000000)] ++ wsX20 ++ (vx_atM "java/lang/ArrayIndexOutOfBoundsException" ["java/lang/IndexOutOfBoundsException", "java/lang/RuntimeException", "java/lang/Exception"]).filter goodWord)
def wsX2_leastThatWillDo : List Cond := .code yX2_leastThatWillDo cX2_leastThatWillDo 11 (some .int) :: ([.constantLong RX2 21 (1000001), .fieldLink RX2 9 "HarnessRows$Table" "areas" "[J", .methodLink RX2 23 yX2_willDo, .instanceMethod yX2_willDo, .selects RX2 yX2_willDo yX2_willDo, .initialized RX2, .code yX2_willDo cX2_willDo 8 (some .boolean), .fieldLink RX2 15 "HarnessRows$Table" "milliamperes" "[J", .fieldLink RX2 18 "HarnessRows$Table" "microohms" "[J", .constantLong RX2 27 (1000000000)] ++ wsX20 ++ (vx_atM "java/lang/ArrayIndexOutOfBoundsException" ["java/lang/IndexOutOfBoundsException", "java/lang/RuntimeException", "java/lang/Exception"]).filter goodWord)
def wsX3_init : List Cond := .code yX3_init cX3_init 1 none :: ([.methodLink RX3 3 objectInit, .instanceMethod objectInit, .code objectInit ⟨#[0xb1]⟩ 1 none, .arrayClass .int, .fieldLink RX3 9 "HarnessRows$Trees" "cavities" "[I", .fieldLink RX3 15 "HarnessRows$Trees" "firstNodes" "[I", .fieldLink RX3 18 "HarnessRows$Trees" "otherNodes" "[I", .fieldLink RX3 21 "HarnessRows$Trees" "lengths" "[I", .arrayClass .long, .fieldLink RX3 24 "HarnessRows$Trees" "ways" "[J", .fieldLink RX3 28 "HarnessRows$Trees" "nodes" "I", .fieldLink RX3 32 "HarnessRows$Trees" "bundles" "I"] ++ wsX30)
def wsX3_nodeCount : List Cond := .code yX3_nodeCount cX3_nodeCount 1 (some .int) :: ([.fieldLink RX3 28 "HarnessRows$Trees" "nodes" "I"] ++ wsX30)
def wsX3_bundleCount : List Cond := .code yX3_bundleCount cX3_bundleCount 1 (some .int) :: ([.fieldLink RX3 32 "HarnessRows$Trees" "bundles" "I"] ++ wsX30)
def wsX3_cavitiesOf : List Cond := .code yX3_cavitiesOf cX3_cavitiesOf 2 (some .int) :: ([.fieldLink RX3 9 "HarnessRows$Trees" "cavities" "[I"] ++ wsX30 ++ (vx_atM "java/lang/ArrayIndexOutOfBoundsException" ["java/lang/IndexOutOfBoundsException", "java/lang/RuntimeException", "java/lang/Exception"]).filter goodWord)
def wsX3_firstNode : List Cond := .code yX3_firstNode cX3_firstNode 2 (some .int) :: ([.fieldLink RX3 15 "HarnessRows$Trees" "firstNodes" "[I"] ++ wsX30 ++ (vx_atM "java/lang/ArrayIndexOutOfBoundsException" ["java/lang/IndexOutOfBoundsException", "java/lang/RuntimeException", "java/lang/Exception"]).filter goodWord)
def wsX3_otherNode : List Cond := .code yX3_otherNode cX3_otherNode 2 (some .int) :: ([.fieldLink RX3 18 "HarnessRows$Trees" "otherNodes" "[I"] ++ wsX30 ++ (vx_atM "java/lang/ArrayIndexOutOfBoundsException" ["java/lang/IndexOutOfBoundsException", "java/lang/RuntimeException", "java/lang/Exception"]).filter goodWord)
def wsX3_bundleLength : List Cond := .code yX3_bundleLength cX3_bundleLength 2 (some .int) :: ([.fieldLink RX3 21 "HarnessRows$Trees" "lengths" "[I"] ++ wsX30 ++ (vx_atM "java/lang/ArrayIndexOutOfBoundsException" ["java/lang/IndexOutOfBoundsException", "java/lang/RuntimeException", "java/lang/Exception"]).filter goodWord)
def wsX3_wayBetween : List Cond := .code yX3_wayBetween cX3_wayBetween 3 (some .long) :: ([.fieldLink RX3 24 "HarnessRows$Trees" "ways" "[J"] ++ wsX30 ++ (vx_atM "java/lang/ArrayIndexOutOfBoundsException" ["java/lang/IndexOutOfBoundsException", "java/lang/RuntimeException", "java/lang/Exception"]).filter goodWord)
def wsX3_setWay : List Cond := .code yX3_setWay cX3_setWay 5 none :: ([.fieldLink RX3 24 "HarnessRows$Trees" "ways" "[J"] ++ wsX30 ++ (vx_atM "java/lang/ArrayIndexOutOfBoundsException" ["java/lang/IndexOutOfBoundsException", "java/lang/RuntimeException", "java/lang/Exception"]).filter goodWord)
def wsX3_addNode : List Cond := .code yX3_addNode cX3_addNode 3 (some .int) :: ([.fieldLink RX3 28 "HarnessRows$Trees" "nodes" "I", .fieldLink RX3 9 "HarnessRows$Trees" "cavities" "[I", .constantLong RX3 35 (-1), .methodLink RX3 37 yX3_setWay, .instanceMethod yX3_setWay, .selects RX3 yX3_setWay yX3_setWay, .initialized RX3, .code yX3_setWay cX3_setWay 5 none, .fieldLink RX3 24 "HarnessRows$Trees" "ways" "[J"] ++ wsX30 ++ (vx_atM "java/lang/ArrayIndexOutOfBoundsException" ["java/lang/IndexOutOfBoundsException", "java/lang/RuntimeException", "java/lang/Exception"]).filter goodWord)
def wsX3_treeOf : List Cond := .code yX3_treeOf cX3_treeOf 4 (some .int) :: ([.fieldLink RX3 28 "HarnessRows$Trees" "nodes" "I", .constantLong RX3 35 (-1), .methodLink RX3 41 yX3_wayBetween, .instanceMethod yX3_wayBetween, .selects RX3 yX3_wayBetween yX3_wayBetween, .initialized RX3, .code yX3_wayBetween cX3_wayBetween 3 (some .long), .fieldLink RX3 24 "HarnessRows$Trees" "ways" "[J"] ++ wsX30 ++ (vx_atM "java/lang/ArrayIndexOutOfBoundsException" ["java/lang/IndexOutOfBoundsException", "java/lang/RuntimeException", "java/lang/Exception"]).filter goodWord)
def wsX3_joinTrees : List Cond := .code yX3_joinTrees cX3_joinTrees 9 none :: ([.fieldLink RX3 28 "HarnessRows$Trees" "nodes" "I", .methodLink RX3 48 yX3_treeOf, .instanceMethod yX3_treeOf, .selects RX3 yX3_treeOf yX3_treeOf, .initialized RX3, .code yX3_treeOf cX3_treeOf 4 (some .int), .constantLong RX3 35 (-1), .methodLink RX3 41 yX3_wayBetween, .instanceMethod yX3_wayBetween, .selects RX3 yX3_wayBetween yX3_wayBetween, .code yX3_wayBetween cX3_wayBetween 3 (some .long), .fieldLink RX3 24 "HarnessRows$Trees" "ways" "[J", .static yX6_hasBit, .initialized RX6, .code yX6_hasBit cX6_hasBit 2 (some .boolean), .methodLink RX3 37 yX3_setWay, .instanceMethod yX3_setWay, .selects RX3 yX3_setWay yX3_setWay, .code yX3_setWay cX3_setWay 5 none] ++ wsX30 ++ (vx_atM "java/lang/ArrayIndexOutOfBoundsException" ["java/lang/IndexOutOfBoundsException", "java/lang/RuntimeException", "java/lang/Exception"]).filter goodWord)
def wsX3_addBundle_r1 : List Cond := [Cond.constantLong RX3 35 (-1), Cond.fieldLink RX3 32 "HarnessRows$Trees" "bundles" "I", Cond.fieldLink RX3 15 "HarnessRows$Trees" "firstNodes" "[I", Cond.fieldLink RX3 18 "HarnessRows$Trees" "otherNodes" "[I", Cond.fieldLink RX3 21 "HarnessRows$Trees" "lengths" "[I", Cond.methodLink RX3 41 yX3_wayBetween, Cond.instanceMethod yX3_wayBetween, Cond.selects RX3 yX3_wayBetween yX3_wayBetween, Cond.initialized RX3, Cond.code yX3_wayBetween cX3_wayBetween 3 (some .long), Cond.fieldLink RX3 24 "HarnessRows$Trees" "ways" "[J", Cond.methodLink RX3 45 yX3_joinTrees, Cond.instanceMethod yX3_joinTrees, Cond.selects RX3 yX3_joinTrees yX3_joinTrees, Cond.code yX3_joinTrees cX3_joinTrees 9 none, Cond.fieldLink RX3 28 "HarnessRows$Trees" "nodes" "I", Cond.methodLink RX3 48 yX3_treeOf, Cond.instanceMethod yX3_treeOf, Cond.selects RX3 yX3_treeOf yX3_treeOf, Cond.code yX3_treeOf cX3_treeOf 4 (some .int), Cond.static yX6_hasBit, Cond.initialized RX6, Cond.code yX6_hasBit cX6_hasBit 2 (some .boolean), Cond.methodLink RX3 37 yX3_setWay]
def wsX3_addBundle_r2 : List Cond := [Cond.instanceMethod yX3_setWay, Cond.selects RX3 yX3_setWay yX3_setWay, Cond.code yX3_setWay cX3_setWay 5 none]
def wsX3_addBundle : List Cond := .code yX3_addBundle cX3_addBundle 5 (some .int) :: ((wsX3_addBundle_r1 ++ wsX3_addBundle_r2) ++ wsX30 ++ (vx_atM "java/lang/ArrayIndexOutOfBoundsException" ["java/lang/IndexOutOfBoundsException", "java/lang/RuntimeException", "java/lang/Exception"]).filter goodWord)
def wsX4_init : List Cond := .code yX4_init cX4_init 1 none :: ([.methodLink RX4 3 objectInit, .instanceMethod objectInit, .code objectInit ⟨#[0xb1]⟩ 1 none, .arrayClass .int, .fieldLink RX4 9 "HarnessRows$Variants" "toldWires" "[I", .fieldLink RX4 15 "HarnessRows$Variants" "onWires" "[I", .fieldLink RX4 18 "HarnessRows$Variants" "variantCount" "I"] ++ wsX40)
def wsX4_count : List Cond := .code yX4_count cX4_count 1 (some .int) :: ([.fieldLink RX4 18 "HarnessRows$Variants" "variantCount" "I"] ++ wsX40)
def wsX4_add : List Cond := .code yX4_add cX4_add 1 (some .int) :: ([.fieldLink RX4 18 "HarnessRows$Variants" "variantCount" "I"] ++ wsX40)
def wsX4_isOn : List Cond := .code yX4_isOn cX4_isOn 4 (some .boolean) :: ([.fieldLink RX4 9 "HarnessRows$Variants" "toldWires" "[I", .fieldLink RX4 15 "HarnessRows$Variants" "onWires" "[I", .static yX6_hasBit, .initialized RX6, .code yX6_hasBit cX6_hasBit 2 (some .boolean)] ++ wsX40 ++ (vx_atM "java/lang/ArrayIndexOutOfBoundsException" ["java/lang/IndexOutOfBoundsException", "java/lang/RuntimeException", "java/lang/Exception"]).filter goodWord)
def wsX4_tellWire : List Cond := .code yX4_tellWire cX4_tellWire 6 (some .boolean) :: ([.fieldLink RX4 9 "HarnessRows$Variants" "toldWires" "[I", .fieldLink RX4 15 "HarnessRows$Variants" "onWires" "[I", .methodLink RX4 22 yX4_isOn, .instanceMethod yX4_isOn, .selects RX4 yX4_isOn yX4_isOn, .initialized RX4, .code yX4_isOn cX4_isOn 4 (some .boolean), .static yX6_hasBit, .initialized RX6, .code yX6_hasBit cX6_hasBit 2 (some .boolean)] ++ wsX40 ++ (vx_atM "java/lang/ArrayIndexOutOfBoundsException" ["java/lang/IndexOutOfBoundsException", "java/lang/RuntimeException", "java/lang/Exception"]).filter goodWord)
def wsX4_wireOff : List Cond := .code yX4_wireOff cX4_wireOff 5 (some .int) :: ([.fieldLink RX4 18 "HarnessRows$Variants" "variantCount" "I", .methodLink RX4 22 yX4_isOn, .instanceMethod yX4_isOn, .selects RX4 yX4_isOn yX4_isOn, .initialized RX4, .code yX4_isOn cX4_isOn 4 (some .boolean), .fieldLink RX4 9 "HarnessRows$Variants" "toldWires" "[I", .fieldLink RX4 15 "HarnessRows$Variants" "onWires" "[I", .static yX6_hasBit, .initialized RX6, .code yX6_hasBit cX6_hasBit 2 (some .boolean)] ++ wsX40 ++ (vx_atM "java/lang/ArrayIndexOutOfBoundsException" ["java/lang/IndexOutOfBoundsException", "java/lang/RuntimeException", "java/lang/Exception"]).filter goodWord)
def wsX5_init : List Cond := .code yX5_init cX5_init 1 none :: ([.methodLink RX5 3 objectInit, .instanceMethod objectInit, .code objectInit ⟨#[0xb1]⟩ 1 none, .arrayClass .int, .fieldLink RX5 9 "HarnessRows$Wires" "firstEnds" "[I", .fieldLink RX5 15 "HarnessRows$Wires" "otherEnds" "[I", .fieldLink RX5 18 "HarnessRows$Wires" "colours" "[I", .arrayClass .long, .fieldLink RX5 21 "HarnessRows$Wires" "loads" "[J", .fieldLink RX5 25 "HarnessRows$Wires" "drops" "[J", .fieldLink RX5 28 "HarnessRows$Wires" "wireCount" "I"] ++ wsX50)
def wsX5_count : List Cond := .code yX5_count cX5_count 1 (some .int) :: ([.fieldLink RX5 28 "HarnessRows$Wires" "wireCount" "I"] ++ wsX50)
def wsX5_firstEnd : List Cond := .code yX5_firstEnd cX5_firstEnd 2 (some .int) :: ([.fieldLink RX5 9 "HarnessRows$Wires" "firstEnds" "[I"] ++ wsX50 ++ (vx_atM "java/lang/ArrayIndexOutOfBoundsException" ["java/lang/IndexOutOfBoundsException", "java/lang/RuntimeException", "java/lang/Exception"]).filter goodWord)
def wsX5_otherEnd : List Cond := .code yX5_otherEnd cX5_otherEnd 2 (some .int) :: ([.fieldLink RX5 15 "HarnessRows$Wires" "otherEnds" "[I"] ++ wsX50 ++ (vx_atM "java/lang/ArrayIndexOutOfBoundsException" ["java/lang/IndexOutOfBoundsException", "java/lang/RuntimeException", "java/lang/Exception"]).filter goodWord)
def wsX5_colourOf : List Cond := .code yX5_colourOf cX5_colourOf 2 (some .int) :: ([.fieldLink RX5 18 "HarnessRows$Wires" "colours" "[I"] ++ wsX50 ++ (vx_atM "java/lang/ArrayIndexOutOfBoundsException" ["java/lang/IndexOutOfBoundsException", "java/lang/RuntimeException", "java/lang/Exception"]).filter goodWord)
def wsX5_loadOf : List Cond := .code yX5_loadOf cX5_loadOf 2 (some .long) :: ([.fieldLink RX5 21 "HarnessRows$Wires" "loads" "[J"] ++ wsX50 ++ (vx_atM "java/lang/ArrayIndexOutOfBoundsException" ["java/lang/IndexOutOfBoundsException", "java/lang/RuntimeException", "java/lang/Exception"]).filter goodWord)
def wsX5_dropOf : List Cond := .code yX5_dropOf cX5_dropOf 2 (some .long) :: ([.fieldLink RX5 25 "HarnessRows$Wires" "drops" "[J"] ++ wsX50 ++ (vx_atM "java/lang/ArrayIndexOutOfBoundsException" ["java/lang/IndexOutOfBoundsException", "java/lang/RuntimeException", "java/lang/Exception"]).filter goodWord)
def wsX5_wireAt : List Cond := .code yX5_wireAt cX5_wireAt 3 (some .int) :: ([.fieldLink RX5 28 "HarnessRows$Wires" "wireCount" "I", .fieldLink RX5 9 "HarnessRows$Wires" "firstEnds" "[I", .fieldLink RX5 15 "HarnessRows$Wires" "otherEnds" "[I"] ++ wsX50 ++ (vx_atM "java/lang/ArrayIndexOutOfBoundsException" ["java/lang/IndexOutOfBoundsException", "java/lang/RuntimeException", "java/lang/Exception"]).filter goodWord)
def wsX6_nodeOf : List Cond := .code yX6_nodeOf cX6_nodeOf 1 (some .int) :: ([])
def wsX5_endsAt : List Cond := .code yX5_endsAt cX5_endsAt 3 (some .boolean) :: ([.fieldLink RX5 9 "HarnessRows$Wires" "firstEnds" "[I", .fieldLink RX5 15 "HarnessRows$Wires" "otherEnds" "[I", .static yX6_nodeOf, .initialized RX6, .code yX6_nodeOf cX6_nodeOf 1 (some .int)] ++ wsX50 ++ (vx_atM "java/lang/ArrayIndexOutOfBoundsException" ["java/lang/IndexOutOfBoundsException", "java/lang/RuntimeException", "java/lang/Exception"]).filter goodWord)
def wsX5_freeColour : List Cond := .code yX5_freeColour cX5_freeColour 5 (some .int) :: ([.fieldLink RX5 28 "HarnessRows$Wires" "wireCount" "I", .fieldLink RX5 18 "HarnessRows$Wires" "colours" "[I", .methodLink RX5 45 yX5_endsAt, .instanceMethod yX5_endsAt, .selects RX5 yX5_endsAt yX5_endsAt, .initialized RX5, .code yX5_endsAt cX5_endsAt 3 (some .boolean), .fieldLink RX5 9 "HarnessRows$Wires" "firstEnds" "[I", .fieldLink RX5 15 "HarnessRows$Wires" "otherEnds" "[I", .static yX6_nodeOf, .initialized RX6, .code yX6_nodeOf cX6_nodeOf 1 (some .int), .static yX6_hasBit, .code yX6_hasBit cX6_hasBit 2 (some .boolean)] ++ wsX50 ++ (vx_atM "java/lang/ArrayIndexOutOfBoundsException" ["java/lang/IndexOutOfBoundsException", "java/lang/RuntimeException", "java/lang/Exception"]).filter goodWord)
def wsX5_add_r1 : List Cond := [Cond.fieldLink RX5 28 "HarnessRows$Wires" "wireCount" "I", Cond.fieldLink RX5 18 "HarnessRows$Wires" "colours" "[I", Cond.fieldLink RX5 9 "HarnessRows$Wires" "firstEnds" "[I", Cond.fieldLink RX5 15 "HarnessRows$Wires" "otherEnds" "[I", Cond.fieldLink RX5 21 "HarnessRows$Wires" "loads" "[J", Cond.fieldLink RX5 25 "HarnessRows$Wires" "drops" "[J", Cond.constantLong RX5 43 (1000000), Cond.methodLink RX5 32 yX5_wireAt, Cond.instanceMethod yX5_wireAt, Cond.selects RX5 yX5_wireAt yX5_wireAt, Cond.initialized RX5, Cond.code yX5_wireAt cX5_wireAt 3 (some .int), Cond.static yX6_nodeOf, Cond.initialized RX6, Cond.code yX6_nodeOf cX6_nodeOf 1 (some .int), Cond.methodLink RX5 39 yX5_freeColour, Cond.instanceMethod yX5_freeColour, Cond.selects RX5 yX5_freeColour yX5_freeColour, Cond.code yX5_freeColour cX5_freeColour 5 (some .int), Cond.methodLink RX5 45 yX5_endsAt, Cond.instanceMethod yX5_endsAt, Cond.selects RX5 yX5_endsAt yX5_endsAt, Cond.code yX5_endsAt cX5_endsAt 3 (some .boolean), Cond.static yX6_hasBit]
def wsX5_add_r2 : List Cond := [Cond.code yX6_hasBit cX6_hasBit 2 (some .boolean)]
def wsX5_add : List Cond := .code yX5_add cX5_add 3 (some .int) :: ((wsX5_add_r1 ++ wsX5_add_r2) ++ wsX50 ++ (vx_atM "java/lang/ArrayIndexOutOfBoundsException" ["java/lang/IndexOutOfBoundsException", "java/lang/RuntimeException", "java/lang/Exception"]).filter goodWord)
def wsX5_tellLoad : List Cond := .code yX5_tellLoad cX5_tellLoad 7 (some .boolean) :: ([.fieldLink RX5 21 "HarnessRows$Wires" "loads" "[J", .fieldLink RX5 25 "HarnessRows$Wires" "drops" "[J"] ++ wsX50 ++ (vx_atM "java/lang/ArrayIndexOutOfBoundsException" ["java/lang/IndexOutOfBoundsException", "java/lang/RuntimeException", "java/lang/Exception"]).filter goodWord)
def wsJ2_newBytesLength_0f7a4 : List Cond := .code yJ2_newBytesLength_0f7a4 cJ2_newBytesLength_0f7a4 1 (some .int) :: ([.constant RJ2 20 (1073741823)])
def wsJ2_newBytesFor_77867 : List Cond := .code yJ2_newBytesFor_77867 cJ2_newBytesFor_77867 1 (some (.array .byte)) :: ([.arrayClass .byte, .methodLink RJ2 11 yJ2_newBytesLength_0f7a4, .static yJ2_newBytesLength_0f7a4, .initialized RJ2, .code yJ2_newBytesLength_0f7a4 cJ2_newBytesLength_0f7a4 1 (some .int), .constant RJ2 20 (1073741823)])
def wsJ5_init_d00df : List Cond := .code yJ5_init_d00df cJ5_init_d00df 2 none :: ([.methodLink RJ5 3 objectInit, .instanceMethod objectInit, .code objectInit ⟨#[0xb1]⟩ 1 none, .fieldLink RJ5 18 "java/lang/String" "COMPACT_STRINGS" "Z", .arrayClass .byte, .fieldLink RJ5 15 "java/lang/AbstractStringBuilder" "value" "[B", .fieldLink RJ5 22 "java/lang/AbstractStringBuilder" "coder" "B", .methodLink RJ5 26 yJ2_newBytesFor_77867, .static yJ2_newBytesFor_77867, .initialized RJ2, .code yJ2_newBytesFor_77867 cJ2_newBytesFor_77867 1 (some (.array .byte)), .methodLink RJ2 11 yJ2_newBytesLength_0f7a4, .static yJ2_newBytesLength_0f7a4, .code yJ2_newBytesLength_0f7a4 cJ2_newBytesLength_0f7a4 1 (some .int), .constant RJ2 20 (1073741823)] ++ wsJ40)
def wsJ4_init_da8c8 : List Cond := .code yJ4_init_da8c8 cJ4_init_da8c8 1 none :: ([.methodLink RJ4 1 yJ5_init_d00df, .instanceMethod yJ5_init_d00df, .initialized RJ5, .code yJ5_init_d00df cJ5_init_d00df 2 none, .methodLink RJ5 3 objectInit, .instanceMethod objectInit, .code objectInit ⟨#[0xb1]⟩ 1 none, .fieldLink RJ5 18 "java/lang/String" "COMPACT_STRINGS" "Z", .arrayClass .byte, .fieldLink RJ5 15 "java/lang/AbstractStringBuilder" "value" "[B", .fieldLink RJ5 22 "java/lang/AbstractStringBuilder" "coder" "B", .methodLink RJ5 26 yJ2_newBytesFor_77867, .static yJ2_newBytesFor_77867, .initialized RJ2, .code yJ2_newBytesFor_77867 cJ2_newBytesFor_77867 1 (some (.array .byte)), .methodLink RJ2 11 yJ2_newBytesLength_0f7a4, .static yJ2_newBytesLength_0f7a4, .code yJ2_newBytesLength_0f7a4 cJ2_newBytesLength_0f7a4 1 (some .int), .constant RJ2 20 (1073741823)] ++ wsJ40)
def wsX6_init_r1 : List Cond := [Cond.methodLink RX6 1 objectInit, Cond.instanceMethod objectInit, Cond.code objectInit ⟨#[0xb1]⟩ 1 none, Cond.classLink RX6 7 RX3, Cond.instantiable RX3 7, Cond.initialized RX3, Cond.fieldLink RX6 10 "HarnessRows" "trees" "LHarnessRows$Trees;", Cond.classLink RX6 16 RX5, Cond.instantiable RX5 6, Cond.initialized RX5, Cond.fieldLink RX6 19 "HarnessRows" "wires" "LHarnessRows$Wires;", Cond.classLink RX6 23 RX2, Cond.instantiable RX2 3, Cond.initialized RX2, Cond.fieldLink RX6 26 "HarnessRows" "rows" "LHarnessRows$Table;", Cond.classLink RX6 30 RX0, Cond.instantiable RX0 8, Cond.initialized RX0, Cond.fieldLink RX6 33 "HarnessRows" "reels" "LHarnessRows$Reels;", Cond.classLink RX6 37 RX1, Cond.instantiable RX1 3, Cond.initialized RX1, Cond.fieldLink RX6 40 "HarnessRows" "splices" "LHarnessRows$Splices;", Cond.classLink RX6 44 RX4]
def wsX6_init_r2 : List Cond := [Cond.instantiable RX4 3, Cond.initialized RX4, Cond.fieldLink RX6 47 "HarnessRows" "variants" "LHarnessRows$Variants;", Cond.classLink RX6 51 RJ4, Cond.instantiable RJ4 4, Cond.initialized RJ4, Cond.fieldLink RX6 54 "HarnessRows" "line" "Ljava/lang/StringBuilder;", Cond.fieldLink RX6 58 "HarnessRows" "slackAbove" "J", Cond.fieldLink RX6 62 "HarnessRows" "slackBelow" "J", Cond.instanceMethod yX3_init, Cond.code yX3_init cX3_init 1 none, Cond.methodLink RX3 3 objectInit, Cond.arrayClass .int, Cond.fieldLink RX3 9 "HarnessRows$Trees" "cavities" "[I", Cond.fieldLink RX3 15 "HarnessRows$Trees" "firstNodes" "[I", Cond.fieldLink RX3 18 "HarnessRows$Trees" "otherNodes" "[I", Cond.fieldLink RX3 21 "HarnessRows$Trees" "lengths" "[I", Cond.arrayClass .long, Cond.fieldLink RX3 24 "HarnessRows$Trees" "ways" "[J", Cond.fieldLink RX3 28 "HarnessRows$Trees" "nodes" "I", Cond.fieldLink RX3 32 "HarnessRows$Trees" "bundles" "I", Cond.instanceMethod yX5_init, Cond.code yX5_init cX5_init 1 none, Cond.methodLink RX5 3 objectInit]
def wsX6_init_r3 : List Cond := [Cond.fieldLink RX5 9 "HarnessRows$Wires" "firstEnds" "[I", Cond.fieldLink RX5 15 "HarnessRows$Wires" "otherEnds" "[I", Cond.fieldLink RX5 18 "HarnessRows$Wires" "colours" "[I", Cond.fieldLink RX5 21 "HarnessRows$Wires" "loads" "[J", Cond.fieldLink RX5 25 "HarnessRows$Wires" "drops" "[J", Cond.fieldLink RX5 28 "HarnessRows$Wires" "wireCount" "I", Cond.instanceMethod yX2_init, Cond.code yX2_init cX2_init 1 none, Cond.methodLink RX2 3 objectInit, Cond.fieldLink RX2 9 "HarnessRows$Table" "areas" "[J", Cond.fieldLink RX2 15 "HarnessRows$Table" "milliamperes" "[J", Cond.fieldLink RX2 18 "HarnessRows$Table" "microohms" "[J", Cond.methodLink RX6 32 yX0_init, Cond.instanceMethod yX0_init, Cond.code yX0_init cX0_init 1 none, Cond.methodLink RX0 3 objectInit, Cond.fieldLink RX0 9 "HarnessRows$Reels" "reelOfWire" "[I", Cond.fieldLink RX0 15 "HarnessRows$Reels" "wireOfPiece" "[I", Cond.fieldLink RX0 18 "HarnessRows$Reels" "cuts" "[J", Cond.fieldLink RX0 22 "HarnessRows$Reels" "filled" "[J", Cond.fieldLink RX0 25 "HarnessRows$Reels" "trial" "[I", Cond.fieldLink RX0 28 "HarnessRows$Reels" "pieces" "I", Cond.fieldLink RX0 32 "HarnessRows$Reels" "fewest" "I", Cond.fieldLink RX0 35 "HarnessRows$Reels" "reelLength" "J"]
def wsX6_init_r4 : List Cond := [Cond.methodLink RX0 39 yJ7_fill_53178, Cond.static yJ7_fill_53178, Cond.initialized RJ7, Cond.code yJ7_fill_53178 cJ7_fill_53178 4 none, Cond.methodLink RX6 39 yX1_init, Cond.instanceMethod yX1_init, Cond.code yX1_init cX1_init 2 none, Cond.methodLink RX1 3 objectInit, Cond.fieldLink RX1 9 "HarnessRows$Splices" "partners" "[I", Cond.fieldLink RX1 15 "HarnessRows$Splices" "groups" "[I", Cond.fieldLink RX1 18 "HarnessRows$Splices" "spliceCount" "I", Cond.instanceMethod yX4_init, Cond.code yX4_init cX4_init 1 none, Cond.methodLink RX4 3 objectInit, Cond.fieldLink RX4 9 "HarnessRows$Variants" "toldWires" "[I", Cond.fieldLink RX4 15 "HarnessRows$Variants" "onWires" "[I", Cond.fieldLink RX4 18 "HarnessRows$Variants" "variantCount" "I", Cond.methodLink RX6 53 yJ4_init_da8c8, Cond.instanceMethod yJ4_init_da8c8, Cond.code yJ4_init_da8c8 cJ4_init_da8c8 1 none, Cond.methodLink RJ4 1 yJ5_init_d00df, Cond.instanceMethod yJ5_init_d00df, Cond.initialized RJ5, Cond.code yJ5_init_d00df cJ5_init_d00df 2 none]
def wsX6_init_r5 : List Cond := [Cond.methodLink RJ5 3 objectInit, Cond.fieldLink RJ5 18 "java/lang/String" "COMPACT_STRINGS" "Z", Cond.arrayClass .byte, Cond.fieldLink RJ5 15 "java/lang/AbstractStringBuilder" "value" "[B", Cond.fieldLink RJ5 22 "java/lang/AbstractStringBuilder" "coder" "B", Cond.methodLink RJ5 26 yJ2_newBytesFor_77867, Cond.static yJ2_newBytesFor_77867, Cond.initialized RJ2, Cond.code yJ2_newBytesFor_77867 cJ2_newBytesFor_77867 1 (some (.array .byte)), Cond.methodLink RJ2 11 yJ2_newBytesLength_0f7a4, Cond.static yJ2_newBytesLength_0f7a4, Cond.code yJ2_newBytesLength_0f7a4 cJ2_newBytesLength_0f7a4 1 (some .int), Cond.constant RJ2 20 (1073741823)]
def wsX6_init : List Cond := .code yX6_init cX6_init 1 none :: ((wsX6_init_r1 ++ (wsX6_init_r2 ++ (wsX6_init_r3 ++ (wsX6_init_r4 ++ wsX6_init_r5)))) ++ wsX30 ++ wsX60 ++ wsX50 ++ wsX20 ++ wsX00 ++ wsX10 ++ wsX40 ++ wsJ40 ++ (vx_atM "java/lang/ArrayIndexOutOfBoundsException" ["java/lang/IndexOutOfBoundsException", "java/lang/RuntimeException", "java/lang/Exception"]).filter goodWord)
def wsX6_checkNumber : List Cond := .code yX6_checkNumber cX6_checkNumber 6 none :: ([.classLink RX6 199 "java/lang/IllegalArgumentException", .initialized "java/lang/IllegalArgumentException"] ++ (vx_atS RX6 203 "java/lang/IllegalArgumentException" ["java/lang/RuntimeException", "java/lang/Exception"]).filter goodWord)
def wsX6_connector : List Cond := .code yX6_connector cX6_connector 2 (some .int) :: ([.constantLong RX6 65 (16), .fieldLink RX6 10 "HarnessRows" "trees" "LHarnessRows$Trees;", .methodLink RX6 67 yX6_checkNumber, .static yX6_checkNumber, .initialized RX6, .code yX6_checkNumber cX6_checkNumber 6 none, .classLink RX6 199 "java/lang/IllegalArgumentException", .initialized "java/lang/IllegalArgumentException", .methodLink RX6 71 yX3_addNode, .instanceMethod yX3_addNode, .selects RX3 yX3_addNode yX3_addNode, .initialized RX3, .code yX3_addNode cX3_addNode 3 (some .int), .fieldLink RX3 28 "HarnessRows$Trees" "nodes" "I", .fieldLink RX3 9 "HarnessRows$Trees" "cavities" "[I", .constantLong RX3 35 (-1), .methodLink RX3 37 yX3_setWay, .instanceMethod yX3_setWay, .selects RX3 yX3_setWay yX3_setWay, .code yX3_setWay cX3_setWay 5 none, .fieldLink RX3 24 "HarnessRows$Trees" "ways" "[J"] ++ wsX60 ++ wsX30 ++ (vx_atS RX6 203 "java/lang/IllegalArgumentException" ["java/lang/RuntimeException", "java/lang/Exception"]).filter goodWord ++ (vx_atM "java/lang/ArrayIndexOutOfBoundsException" ["java/lang/IndexOutOfBoundsException", "java/lang/RuntimeException", "java/lang/Exception"]).filter goodWord)
def wsX6_node : List Cond := .code yX6_node cX6_node 1 (some .int) :: ([.fieldLink RX6 10 "HarnessRows" "trees" "LHarnessRows$Trees;", .methodLink RX6 71 yX3_addNode, .instanceMethod yX3_addNode, .selects RX3 yX3_addNode yX3_addNode, .initialized RX3, .code yX3_addNode cX3_addNode 3 (some .int), .fieldLink RX3 28 "HarnessRows$Trees" "nodes" "I", .fieldLink RX3 9 "HarnessRows$Trees" "cavities" "[I", .constantLong RX3 35 (-1), .methodLink RX3 37 yX3_setWay, .instanceMethod yX3_setWay, .selects RX3 yX3_setWay yX3_setWay, .code yX3_setWay cX3_setWay 5 none, .fieldLink RX3 24 "HarnessRows$Trees" "ways" "[J"] ++ wsX60 ++ wsX30 ++ (vx_atM "java/lang/ArrayIndexOutOfBoundsException" ["java/lang/IndexOutOfBoundsException", "java/lang/RuntimeException", "java/lang/Exception"]).filter goodWord)
def wsX6_checkIndex : List Cond := .code yX6_checkIndex cX6_checkIndex 2 none :: ([.classLink RX6 190 "java/lang/IndexOutOfBoundsException", .initialized "java/lang/IndexOutOfBoundsException"] ++ (vx_atS RX6 194 "java/lang/IndexOutOfBoundsException" ["java/lang/RuntimeException", "java/lang/Exception"]).filter goodWord)
def wsX6_bundle_r1 : List Cond := [Cond.fieldLink RX6 10 "HarnessRows" "trees" "LHarnessRows$Trees;", Cond.constantLong RX6 83 (100000), Cond.methodLink RX6 75 yX3_nodeCount, Cond.instanceMethod yX3_nodeCount, Cond.selects RX3 yX3_nodeCount yX3_nodeCount, Cond.initialized RX3, Cond.code yX3_nodeCount cX3_nodeCount 1 (some .int), Cond.fieldLink RX3 28 "HarnessRows$Trees" "nodes" "I", Cond.methodLink RX6 79 yX6_checkIndex, Cond.static yX6_checkIndex, Cond.initialized RX6, Cond.code yX6_checkIndex cX6_checkIndex 2 none, Cond.classLink RX6 190 "java/lang/IndexOutOfBoundsException", Cond.initialized "java/lang/IndexOutOfBoundsException", Cond.methodLink RX6 67 yX6_checkNumber, Cond.static yX6_checkNumber, Cond.code yX6_checkNumber cX6_checkNumber 6 none, Cond.classLink RX6 199 "java/lang/IllegalArgumentException", Cond.initialized "java/lang/IllegalArgumentException", Cond.methodLink RX6 85 yX3_addBundle, Cond.instanceMethod yX3_addBundle, Cond.selects RX3 yX3_addBundle yX3_addBundle, Cond.code yX3_addBundle cX3_addBundle 5 (some .int), Cond.constantLong RX3 35 (-1)]
def wsX6_bundle_r2 : List Cond := [Cond.fieldLink RX3 32 "HarnessRows$Trees" "bundles" "I", Cond.fieldLink RX3 15 "HarnessRows$Trees" "firstNodes" "[I", Cond.fieldLink RX3 18 "HarnessRows$Trees" "otherNodes" "[I", Cond.fieldLink RX3 21 "HarnessRows$Trees" "lengths" "[I", Cond.methodLink RX3 41 yX3_wayBetween, Cond.instanceMethod yX3_wayBetween, Cond.selects RX3 yX3_wayBetween yX3_wayBetween, Cond.code yX3_wayBetween cX3_wayBetween 3 (some .long), Cond.fieldLink RX3 24 "HarnessRows$Trees" "ways" "[J", Cond.methodLink RX3 45 yX3_joinTrees, Cond.instanceMethod yX3_joinTrees, Cond.selects RX3 yX3_joinTrees yX3_joinTrees, Cond.code yX3_joinTrees cX3_joinTrees 9 none, Cond.methodLink RX3 48 yX3_treeOf, Cond.instanceMethod yX3_treeOf, Cond.selects RX3 yX3_treeOf yX3_treeOf, Cond.code yX3_treeOf cX3_treeOf 4 (some .int), Cond.static yX6_hasBit, Cond.code yX6_hasBit cX6_hasBit 2 (some .boolean), Cond.methodLink RX3 37 yX3_setWay, Cond.instanceMethod yX3_setWay, Cond.selects RX3 yX3_setWay yX3_setWay, Cond.code yX3_setWay cX3_setWay 5 none]
def wsX6_bundle : List Cond := .code yX6_bundle cX6_bundle 5 (some .int) :: ((wsX6_bundle_r1 ++ wsX6_bundle_r2) ++ wsX60 ++ wsX30 ++ (vx_atS RX6 194 "java/lang/IndexOutOfBoundsException" ["java/lang/RuntimeException", "java/lang/Exception"]).filter goodWord ++ (vx_atS RX6 203 "java/lang/IllegalArgumentException" ["java/lang/RuntimeException", "java/lang/Exception"]).filter goodWord ++ (vx_atM "java/lang/ArrayIndexOutOfBoundsException" ["java/lang/IndexOutOfBoundsException", "java/lang/RuntimeException", "java/lang/Exception"]).filter goodWord)
def wsX6_checkCavity : List Cond := .code yX6_checkCavity cX6_checkCavity 3 none :: ([.fieldLink RX6 10 "HarnessRows" "trees" "LHarnessRows$Trees;", .methodLink RX6 75 yX3_nodeCount, .instanceMethod yX3_nodeCount, .selects RX3 yX3_nodeCount yX3_nodeCount, .initialized RX3, .code yX3_nodeCount cX3_nodeCount 1 (some .int), .fieldLink RX3 28 "HarnessRows$Trees" "nodes" "I", .methodLink RX6 79 yX6_checkIndex, .static yX6_checkIndex, .initialized RX6, .code yX6_checkIndex cX6_checkIndex 2 none, .classLink RX6 190 "java/lang/IndexOutOfBoundsException", .initialized "java/lang/IndexOutOfBoundsException", .methodLink RX6 204 yX3_cavitiesOf, .instanceMethod yX3_cavitiesOf, .selects RX3 yX3_cavitiesOf yX3_cavitiesOf, .code yX3_cavitiesOf cX3_cavitiesOf 2 (some .int), .fieldLink RX3 9 "HarnessRows$Trees" "cavities" "[I"] ++ wsX60 ++ wsX30 ++ (vx_atS RX6 194 "java/lang/IndexOutOfBoundsException" ["java/lang/RuntimeException", "java/lang/Exception"]).filter goodWord ++ (vx_atM "java/lang/ArrayIndexOutOfBoundsException" ["java/lang/IndexOutOfBoundsException", "java/lang/RuntimeException", "java/lang/Exception"]).filter goodWord)
def wsX6_endOf : List Cond := .code yX6_endOf cX6_endOf 2 (some .int) :: ([])
def wsX6_wire_r1 : List Cond := [Cond.fieldLink RX6 19 "HarnessRows" "wires" "LHarnessRows$Wires;", Cond.methodLink RX6 89 yX6_checkCavity, Cond.instanceMethod yX6_checkCavity, Cond.selects RX6 yX6_checkCavity yX6_checkCavity, Cond.initialized RX6, Cond.code yX6_checkCavity cX6_checkCavity 3 none, Cond.fieldLink RX6 10 "HarnessRows" "trees" "LHarnessRows$Trees;", Cond.methodLink RX6 75 yX3_nodeCount, Cond.instanceMethod yX3_nodeCount, Cond.selects RX3 yX3_nodeCount yX3_nodeCount, Cond.initialized RX3, Cond.code yX3_nodeCount cX3_nodeCount 1 (some .int), Cond.fieldLink RX3 28 "HarnessRows$Trees" "nodes" "I", Cond.methodLink RX6 79 yX6_checkIndex, Cond.static yX6_checkIndex, Cond.code yX6_checkIndex cX6_checkIndex 2 none, Cond.classLink RX6 190 "java/lang/IndexOutOfBoundsException", Cond.initialized "java/lang/IndexOutOfBoundsException", Cond.methodLink RX6 204 yX3_cavitiesOf, Cond.instanceMethod yX3_cavitiesOf, Cond.selects RX3 yX3_cavitiesOf yX3_cavitiesOf, Cond.code yX3_cavitiesOf cX3_cavitiesOf 2 (some .int), Cond.fieldLink RX3 9 "HarnessRows$Trees" "cavities" "[I", Cond.methodLink RX6 92 yX6_endOf]
def wsX6_wire_r2 : List Cond := [Cond.static yX6_endOf, Cond.code yX6_endOf cX6_endOf 2 (some .int), Cond.methodLink RX6 96 yX5_add, Cond.instanceMethod yX5_add, Cond.selects RX5 yX5_add yX5_add, Cond.initialized RX5, Cond.code yX5_add cX5_add 3 (some .int), Cond.fieldLink RX5 28 "HarnessRows$Wires" "wireCount" "I", Cond.fieldLink RX5 18 "HarnessRows$Wires" "colours" "[I", Cond.fieldLink RX5 9 "HarnessRows$Wires" "firstEnds" "[I", Cond.fieldLink RX5 15 "HarnessRows$Wires" "otherEnds" "[I", Cond.fieldLink RX5 21 "HarnessRows$Wires" "loads" "[J", Cond.fieldLink RX5 25 "HarnessRows$Wires" "drops" "[J", Cond.constantLong RX5 43 (1000000), Cond.methodLink RX5 32 yX5_wireAt, Cond.instanceMethod yX5_wireAt, Cond.selects RX5 yX5_wireAt yX5_wireAt, Cond.code yX5_wireAt cX5_wireAt 3 (some .int), Cond.static yX6_nodeOf, Cond.code yX6_nodeOf cX6_nodeOf 1 (some .int), Cond.methodLink RX5 39 yX5_freeColour, Cond.instanceMethod yX5_freeColour, Cond.selects RX5 yX5_freeColour yX5_freeColour, Cond.code yX5_freeColour cX5_freeColour 5 (some .int)]
def wsX6_wire_r3 : List Cond := [Cond.methodLink RX5 45 yX5_endsAt, Cond.instanceMethod yX5_endsAt, Cond.selects RX5 yX5_endsAt yX5_endsAt, Cond.code yX5_endsAt cX5_endsAt 3 (some .boolean), Cond.static yX6_hasBit, Cond.code yX6_hasBit cX6_hasBit 2 (some .boolean)]
def wsX6_wire : List Cond := .code yX6_wire cX6_wire 5 (some .int) :: ((wsX6_wire_r1 ++ (wsX6_wire_r2 ++ wsX6_wire_r3)) ++ wsX60 ++ wsX30 ++ wsX50 ++ (vx_atS RX6 194 "java/lang/IndexOutOfBoundsException" ["java/lang/RuntimeException", "java/lang/Exception"]).filter goodWord ++ (vx_atM "java/lang/ArrayIndexOutOfBoundsException" ["java/lang/IndexOutOfBoundsException", "java/lang/RuntimeException", "java/lang/Exception"]).filter goodWord)
def wsX6_load_r1 : List Cond := [Cond.fieldLink RX6 19 "HarnessRows" "wires" "LHarnessRows$Wires;", Cond.constantLong RX6 102 (1000000), Cond.methodLink RX6 99 yX5_count, Cond.instanceMethod yX5_count, Cond.selects RX5 yX5_count yX5_count, Cond.initialized RX5, Cond.code yX5_count cX5_count 1 (some .int), Cond.fieldLink RX5 28 "HarnessRows$Wires" "wireCount" "I", Cond.methodLink RX6 79 yX6_checkIndex, Cond.static yX6_checkIndex, Cond.initialized RX6, Cond.code yX6_checkIndex cX6_checkIndex 2 none, Cond.classLink RX6 190 "java/lang/IndexOutOfBoundsException", Cond.initialized "java/lang/IndexOutOfBoundsException", Cond.methodLink RX6 67 yX6_checkNumber, Cond.static yX6_checkNumber, Cond.code yX6_checkNumber cX6_checkNumber 6 none, Cond.classLink RX6 199 "java/lang/IllegalArgumentException", Cond.initialized "java/lang/IllegalArgumentException", Cond.methodLink RX6 104 yX5_tellLoad, Cond.instanceMethod yX5_tellLoad, Cond.selects RX5 yX5_tellLoad yX5_tellLoad, Cond.code yX5_tellLoad cX5_tellLoad 7 (some .boolean), Cond.fieldLink RX5 21 "HarnessRows$Wires" "loads" "[J"]
def wsX6_load_r2 : List Cond := [Cond.fieldLink RX5 25 "HarnessRows$Wires" "drops" "[J"]
def wsX6_load : List Cond := .code yX6_load cX6_load 6 (some .boolean) :: ((wsX6_load_r1 ++ wsX6_load_r2) ++ wsX60 ++ wsX50 ++ (vx_atS RX6 194 "java/lang/IndexOutOfBoundsException" ["java/lang/RuntimeException", "java/lang/Exception"]).filter goodWord ++ (vx_atS RX6 203 "java/lang/IllegalArgumentException" ["java/lang/RuntimeException", "java/lang/Exception"]).filter goodWord ++ (vx_atM "java/lang/ArrayIndexOutOfBoundsException" ["java/lang/IndexOutOfBoundsException", "java/lang/RuntimeException", "java/lang/Exception"]).filter goodWord)
def wsX6_cutLength_r1 : List Cond := [Cond.fieldLink RX6 10 "HarnessRows" "trees" "LHarnessRows$Trees;", Cond.fieldLink RX6 19 "HarnessRows" "wires" "LHarnessRows$Wires;", Cond.constantLong RX6 112 (-1), Cond.fieldLink RX6 58 "HarnessRows" "slackAbove" "J", Cond.fieldLink RX6 62 "HarnessRows" "slackBelow" "J", Cond.methodLink RX6 167 yX5_firstEnd, Cond.instanceMethod yX5_firstEnd, Cond.selects RX5 yX5_firstEnd yX5_firstEnd, Cond.initialized RX5, Cond.code yX5_firstEnd cX5_firstEnd 2 (some .int), Cond.fieldLink RX5 9 "HarnessRows$Wires" "firstEnds" "[I", Cond.methodLink RX6 207 yX6_nodeOf, Cond.static yX6_nodeOf, Cond.initialized RX6, Cond.code yX6_nodeOf cX6_nodeOf 1 (some .int), Cond.methodLink RX6 170 yX5_otherEnd, Cond.instanceMethod yX5_otherEnd, Cond.selects RX5 yX5_otherEnd yX5_otherEnd, Cond.code yX5_otherEnd cX5_otherEnd 2 (some .int), Cond.fieldLink RX5 15 "HarnessRows$Wires" "otherEnds" "[I", Cond.methodLink RX6 210 yX3_wayBetween, Cond.instanceMethod yX3_wayBetween, Cond.selects RX3 yX3_wayBetween yX3_wayBetween, Cond.initialized RX3]
def wsX6_cutLength_r2 : List Cond := [Cond.code yX3_wayBetween cX3_wayBetween 3 (some .long), Cond.fieldLink RX3 24 "HarnessRows$Trees" "ways" "[J"]
def wsX6_cutLength : List Cond := .code yX6_cutLength cX6_cutLength 4 (some .long) :: ((wsX6_cutLength_r1 ++ wsX6_cutLength_r2) ++ wsX60 ++ wsX50 ++ wsX30 ++ (vx_atM "java/lang/ArrayIndexOutOfBoundsException" ["java/lang/IndexOutOfBoundsException", "java/lang/RuntimeException", "java/lang/Exception"]).filter goodWord)
def wsX6_gauge_r1 : List Cond := [Cond.fieldLink RX6 19 "HarnessRows" "wires" "LHarnessRows$Wires;", Cond.constantLong RX6 112 (-1), Cond.fieldLink RX6 26 "HarnessRows" "rows" "LHarnessRows$Table;", Cond.methodLink RX6 99 yX5_count, Cond.instanceMethod yX5_count, Cond.selects RX5 yX5_count yX5_count, Cond.initialized RX5, Cond.code yX5_count cX5_count 1 (some .int), Cond.fieldLink RX5 28 "HarnessRows$Wires" "wireCount" "I", Cond.methodLink RX6 79 yX6_checkIndex, Cond.static yX6_checkIndex, Cond.initialized RX6, Cond.code yX6_checkIndex cX6_checkIndex 2 none, Cond.classLink RX6 190 "java/lang/IndexOutOfBoundsException", Cond.initialized "java/lang/IndexOutOfBoundsException", Cond.methodLink RX6 108 yX6_cutLength, Cond.instanceMethod yX6_cutLength, Cond.selects RX6 yX6_cutLength yX6_cutLength, Cond.code yX6_cutLength cX6_cutLength 4 (some .long), Cond.fieldLink RX6 10 "HarnessRows" "trees" "LHarnessRows$Trees;", Cond.fieldLink RX6 58 "HarnessRows" "slackAbove" "J", Cond.fieldLink RX6 62 "HarnessRows" "slackBelow" "J", Cond.methodLink RX6 167 yX5_firstEnd, Cond.instanceMethod yX5_firstEnd]
def wsX6_gauge_r2 : List Cond := [Cond.selects RX5 yX5_firstEnd yX5_firstEnd, Cond.code yX5_firstEnd cX5_firstEnd 2 (some .int), Cond.fieldLink RX5 9 "HarnessRows$Wires" "firstEnds" "[I", Cond.methodLink RX6 207 yX6_nodeOf, Cond.static yX6_nodeOf, Cond.code yX6_nodeOf cX6_nodeOf 1 (some .int), Cond.methodLink RX6 170 yX5_otherEnd, Cond.instanceMethod yX5_otherEnd, Cond.selects RX5 yX5_otherEnd yX5_otherEnd, Cond.code yX5_otherEnd cX5_otherEnd 2 (some .int), Cond.fieldLink RX5 15 "HarnessRows$Wires" "otherEnds" "[I", Cond.methodLink RX6 210 yX3_wayBetween, Cond.instanceMethod yX3_wayBetween, Cond.selects RX3 yX3_wayBetween yX3_wayBetween, Cond.initialized RX3, Cond.code yX3_wayBetween cX3_wayBetween 3 (some .long), Cond.fieldLink RX3 24 "HarnessRows$Trees" "ways" "[J", Cond.methodLink RX6 114 yX5_loadOf, Cond.instanceMethod yX5_loadOf, Cond.selects RX5 yX5_loadOf yX5_loadOf, Cond.code yX5_loadOf cX5_loadOf 2 (some .long), Cond.fieldLink RX5 21 "HarnessRows$Wires" "loads" "[J", Cond.methodLink RX6 117 yX5_dropOf, Cond.instanceMethod yX5_dropOf]
def wsX6_gauge_r3 : List Cond := [Cond.selects RX5 yX5_dropOf yX5_dropOf, Cond.code yX5_dropOf cX5_dropOf 2 (some .long), Cond.fieldLink RX5 25 "HarnessRows$Wires" "drops" "[J", Cond.methodLink RX6 120 yX2_leastThatWillDo, Cond.instanceMethod yX2_leastThatWillDo, Cond.selects RX2 yX2_leastThatWillDo yX2_leastThatWillDo, Cond.initialized RX2, Cond.code yX2_leastThatWillDo cX2_leastThatWillDo 11 (some .int), Cond.constantLong RX2 21 (1000001), Cond.fieldLink RX2 9 "HarnessRows$Table" "areas" "[J", Cond.methodLink RX2 23 yX2_willDo, Cond.instanceMethod yX2_willDo, Cond.selects RX2 yX2_willDo yX2_willDo, Cond.code yX2_willDo cX2_willDo 8 (some .boolean), Cond.fieldLink RX2 15 "HarnessRows$Table" "milliamperes" "[J", Cond.fieldLink RX2 18 "HarnessRows$Table" "microohms" "[J", Cond.constantLong RX2 27 (1000000000)]
def wsX6_gauge : List Cond := .code yX6_gauge cX6_gauge 4 (some .int) :: ((wsX6_gauge_r1 ++ (wsX6_gauge_r2 ++ wsX6_gauge_r3)) ++ wsX60 ++ wsX50 ++ wsX30 ++ wsX20 ++ (vx_atS RX6 194 "java/lang/IndexOutOfBoundsException" ["java/lang/RuntimeException", "java/lang/Exception"]).filter goodWord ++ (vx_atM "java/lang/ArrayIndexOutOfBoundsException" ["java/lang/IndexOutOfBoundsException", "java/lang/RuntimeException", "java/lang/Exception"]).filter goodWord)
def wsX6_table : List Cond := .code yX6_table cX6_table 8 (some .boolean) :: ([.constantLong RX6 102 (1000000), .fieldLink RX6 26 "HarnessRows" "rows" "LHarnessRows$Table;", .methodLink RX6 79 yX6_checkIndex, .static yX6_checkIndex, .initialized RX6, .code yX6_checkIndex cX6_checkIndex 2 none, .classLink RX6 190 "java/lang/IndexOutOfBoundsException", .initialized "java/lang/IndexOutOfBoundsException", .methodLink RX6 67 yX6_checkNumber, .static yX6_checkNumber, .code yX6_checkNumber cX6_checkNumber 6 none, .classLink RX6 199 "java/lang/IllegalArgumentException", .initialized "java/lang/IllegalArgumentException", .methodLink RX6 124 yX2_tellRow, .instanceMethod yX2_tellRow, .selects RX2 yX2_tellRow yX2_tellRow, .initialized RX2, .code yX2_tellRow cX2_tellRow 9 (some .boolean), .fieldLink RX2 9 "HarnessRows$Table" "areas" "[J", .fieldLink RX2 15 "HarnessRows$Table" "milliamperes" "[J", .fieldLink RX2 18 "HarnessRows$Table" "microohms" "[J"] ++ wsX60 ++ wsX20 ++ (vx_atS RX6 194 "java/lang/IndexOutOfBoundsException" ["java/lang/RuntimeException", "java/lang/Exception"]).filter goodWord ++ (vx_atS RX6 203 "java/lang/IllegalArgumentException" ["java/lang/RuntimeException", "java/lang/Exception"]).filter goodWord ++ (vx_atM "java/lang/ArrayIndexOutOfBoundsException" ["java/lang/IndexOutOfBoundsException", "java/lang/RuntimeException", "java/lang/Exception"]).filter goodWord)
def wsX6_length_r1 : List Cond := [Cond.fieldLink RX6 19 "HarnessRows" "wires" "LHarnessRows$Wires;", Cond.methodLink RX6 99 yX5_count, Cond.instanceMethod yX5_count, Cond.selects RX5 yX5_count yX5_count, Cond.initialized RX5, Cond.code yX5_count cX5_count 1 (some .int), Cond.fieldLink RX5 28 "HarnessRows$Wires" "wireCount" "I", Cond.methodLink RX6 79 yX6_checkIndex, Cond.static yX6_checkIndex, Cond.initialized RX6, Cond.code yX6_checkIndex cX6_checkIndex 2 none, Cond.classLink RX6 190 "java/lang/IndexOutOfBoundsException", Cond.initialized "java/lang/IndexOutOfBoundsException", Cond.methodLink RX6 108 yX6_cutLength, Cond.instanceMethod yX6_cutLength, Cond.selects RX6 yX6_cutLength yX6_cutLength, Cond.code yX6_cutLength cX6_cutLength 4 (some .long), Cond.fieldLink RX6 10 "HarnessRows" "trees" "LHarnessRows$Trees;", Cond.constantLong RX6 112 (-1), Cond.fieldLink RX6 58 "HarnessRows" "slackAbove" "J", Cond.fieldLink RX6 62 "HarnessRows" "slackBelow" "J", Cond.methodLink RX6 167 yX5_firstEnd, Cond.instanceMethod yX5_firstEnd, Cond.selects RX5 yX5_firstEnd yX5_firstEnd]
def wsX6_length_r2 : List Cond := [Cond.code yX5_firstEnd cX5_firstEnd 2 (some .int), Cond.fieldLink RX5 9 "HarnessRows$Wires" "firstEnds" "[I", Cond.methodLink RX6 207 yX6_nodeOf, Cond.static yX6_nodeOf, Cond.code yX6_nodeOf cX6_nodeOf 1 (some .int), Cond.methodLink RX6 170 yX5_otherEnd, Cond.instanceMethod yX5_otherEnd, Cond.selects RX5 yX5_otherEnd yX5_otherEnd, Cond.code yX5_otherEnd cX5_otherEnd 2 (some .int), Cond.fieldLink RX5 15 "HarnessRows$Wires" "otherEnds" "[I", Cond.methodLink RX6 210 yX3_wayBetween, Cond.instanceMethod yX3_wayBetween, Cond.selects RX3 yX3_wayBetween yX3_wayBetween, Cond.initialized RX3, Cond.code yX3_wayBetween cX3_wayBetween 3 (some .long), Cond.fieldLink RX3 24 "HarnessRows$Trees" "ways" "[J"]
def wsX6_length : List Cond := .code yX6_length cX6_length 2 (some .long) :: ((wsX6_length_r1 ++ wsX6_length_r2) ++ wsX60 ++ wsX50 ++ wsX30 ++ (vx_atS RX6 194 "java/lang/IndexOutOfBoundsException" ["java/lang/RuntimeException", "java/lang/Exception"]).filter goodWord ++ (vx_atM "java/lang/ArrayIndexOutOfBoundsException" ["java/lang/IndexOutOfBoundsException", "java/lang/RuntimeException", "java/lang/Exception"]).filter goodWord)
def wsX6_slack : List Cond := .code yX6_slack cX6_slack 6 (some .boolean) :: ([.constantLong RX6 128 (1000), .fieldLink RX6 58 "HarnessRows" "slackAbove" "J", .fieldLink RX6 62 "HarnessRows" "slackBelow" "J", .methodLink RX6 67 yX6_checkNumber, .static yX6_checkNumber, .initialized RX6, .code yX6_checkNumber cX6_checkNumber 6 none, .classLink RX6 199 "java/lang/IllegalArgumentException", .initialized "java/lang/IllegalArgumentException"] ++ wsX60 ++ (vx_atS RX6 203 "java/lang/IllegalArgumentException" ["java/lang/RuntimeException", "java/lang/Exception"]).filter goodWord)
def wsX6_reel_r1 : List Cond := [Cond.constantLong RX6 130 (10000000), Cond.fieldLink RX6 33 "HarnessRows" "reels" "LHarnessRows$Reels;", Cond.fieldLink RX6 19 "HarnessRows" "wires" "LHarnessRows$Wires;", Cond.constantLong RX6 112 (-1), Cond.methodLink RX6 67 yX6_checkNumber, Cond.static yX6_checkNumber, Cond.initialized RX6, Cond.code yX6_checkNumber cX6_checkNumber 6 none, Cond.classLink RX6 199 "java/lang/IllegalArgumentException", Cond.initialized "java/lang/IllegalArgumentException", Cond.methodLink RX6 132 yX0_begin, Cond.instanceMethod yX0_begin, Cond.selects RX0 yX0_begin yX0_begin, Cond.initialized RX0, Cond.code yX0_begin cX0_begin 1 none, Cond.fieldLink RX0 9 "HarnessRows$Reels" "reelOfWire" "[I", Cond.fieldLink RX0 22 "HarnessRows$Reels" "filled" "[J", Cond.fieldLink RX0 28 "HarnessRows$Reels" "pieces" "I", Cond.methodLink RX0 39 yJ7_fill_53178, Cond.static yJ7_fill_53178, Cond.initialized RJ7, Cond.code yJ7_fill_53178 cJ7_fill_53178 4 none, Cond.methodLink RX0 45 yJ7_fill_d0a16, Cond.static yJ7_fill_d0a16]
def wsX6_reel_r2 : List Cond := [Cond.code yJ7_fill_d0a16 cJ7_fill_d0a16 5 none, Cond.methodLink RX6 99 yX5_count, Cond.instanceMethod yX5_count, Cond.selects RX5 yX5_count yX5_count, Cond.initialized RX5, Cond.code yX5_count cX5_count 1 (some .int), Cond.fieldLink RX5 28 "HarnessRows$Wires" "wireCount" "I", Cond.methodLink RX6 108 yX6_cutLength, Cond.instanceMethod yX6_cutLength, Cond.selects RX6 yX6_cutLength yX6_cutLength, Cond.code yX6_cutLength cX6_cutLength 4 (some .long), Cond.fieldLink RX6 10 "HarnessRows" "trees" "LHarnessRows$Trees;", Cond.fieldLink RX6 58 "HarnessRows" "slackAbove" "J", Cond.fieldLink RX6 62 "HarnessRows" "slackBelow" "J", Cond.methodLink RX6 167 yX5_firstEnd, Cond.instanceMethod yX5_firstEnd, Cond.selects RX5 yX5_firstEnd yX5_firstEnd, Cond.code yX5_firstEnd cX5_firstEnd 2 (some .int), Cond.fieldLink RX5 9 "HarnessRows$Wires" "firstEnds" "[I", Cond.methodLink RX6 207 yX6_nodeOf, Cond.static yX6_nodeOf, Cond.code yX6_nodeOf cX6_nodeOf 1 (some .int), Cond.methodLink RX6 170 yX5_otherEnd, Cond.instanceMethod yX5_otherEnd]
def wsX6_reel_r3 : List Cond := [Cond.selects RX5 yX5_otherEnd yX5_otherEnd, Cond.code yX5_otherEnd cX5_otherEnd 2 (some .int), Cond.fieldLink RX5 15 "HarnessRows$Wires" "otherEnds" "[I", Cond.methodLink RX6 210 yX3_wayBetween, Cond.instanceMethod yX3_wayBetween, Cond.selects RX3 yX3_wayBetween yX3_wayBetween, Cond.initialized RX3, Cond.code yX3_wayBetween cX3_wayBetween 3 (some .long), Cond.fieldLink RX3 24 "HarnessRows$Trees" "ways" "[J", Cond.methodLink RX6 135 yX0_addPiece, Cond.instanceMethod yX0_addPiece, Cond.selects RX0 yX0_addPiece yX0_addPiece, Cond.code yX0_addPiece cX0_addPiece 4 none, Cond.fieldLink RX0 15 "HarnessRows$Reels" "wireOfPiece" "[I", Cond.fieldLink RX0 18 "HarnessRows$Reels" "cuts" "[J", Cond.methodLink RX6 139 yX0_pack, Cond.instanceMethod yX0_pack, Cond.selects RX0 yX0_pack yX0_pack, Cond.code yX0_pack cX0_pack 4 (some .int), Cond.fieldLink RX0 35 "HarnessRows$Reels" "reelLength" "J", Cond.methodLink RX0 48 yX0_packOnFewest, Cond.instanceMethod yX0_packOnFewest, Cond.selects RX0 yX0_packOnFewest yX0_packOnFewest, Cond.code yX0_packOnFewest cX0_packOnFewest 1 (some .int)]
def wsX6_reel_r4 : List Cond := [Cond.fieldLink RX0 32 "HarnessRows$Reels" "fewest" "I", Cond.methodLink RX0 55 yX0_placeFrom, Cond.instanceMethod yX0_placeFrom, Cond.selects RX0 yX0_placeFrom yX0_placeFrom, Cond.code yX0_placeFrom cX0_placeFrom 4 none, Cond.methodLink RX0 59 yX0_keepTrial, Cond.instanceMethod yX0_keepTrial, Cond.selects RX0 yX0_keepTrial yX0_keepTrial, Cond.code yX0_keepTrial cX0_keepTrial 3 none, Cond.fieldLink RX0 25 "HarnessRows$Reels" "trial" "[I", Cond.methodLink RX0 63 yX0_placeOn, Cond.instanceMethod yX0_placeOn, Cond.selects RX0 yX0_placeOn yX0_placeOn, Cond.code yX0_placeOn cX0_placeOn 4 none, Cond.methodLink RX0 71 Lib.Math.max.name, Cond.static Lib.Math.max.name, Cond.initialized "java/lang/Math", Cond.code Lib.Math.max.name Lib.Math.max.code 2 (some .int), Cond.methodLink RX0 67 yX0_hasRoom, Cond.instanceMethod yX0_hasRoom, Cond.selects RX0 yX0_hasRoom yX0_hasRoom, Cond.code yX0_hasRoom cX0_hasRoom 3 (some .boolean), Cond.methodLink RX0 52 yX0_packLongestFirst, Cond.instanceMethod yX0_packLongestFirst]
def wsX6_reel_r5 : List Cond := [Cond.selects RX0 yX0_packLongestFirst yX0_packLongestFirst, Cond.code yX0_packLongestFirst cX0_packLongestFirst 5 (some .int), Cond.methodLink RX0 77 yX0_longestLeft, Cond.instanceMethod yX0_longestLeft, Cond.selects RX0 yX0_longestLeft yX0_longestLeft, Cond.code yX0_longestLeft cX0_longestLeft 4 (some .int), Cond.methodLink RX0 80 yX0_lowestWithRoom, Cond.instanceMethod yX0_lowestWithRoom, Cond.selects RX0 yX0_lowestWithRoom yX0_lowestWithRoom, Cond.code yX0_lowestWithRoom cX0_lowestWithRoom 3 (some .int)]
def wsX6_reel : List Cond := .code yX6_reel cX6_reel 6 (some .int) :: ((wsX6_reel_r1 ++ (wsX6_reel_r2 ++ (wsX6_reel_r3 ++ (wsX6_reel_r4 ++ wsX6_reel_r5)))) ++ wsX60 ++ wsX00 ++ wsX50 ++ wsX30 ++ (vx_atS RX6 203 "java/lang/IllegalArgumentException" ["java/lang/RuntimeException", "java/lang/Exception"]).filter goodWord ++ (vx_atM "java/lang/ArrayIndexOutOfBoundsException" ["java/lang/IndexOutOfBoundsException", "java/lang/RuntimeException", "java/lang/Exception"]).filter goodWord)
def wsX6_reelOf : List Cond := .code yX6_reelOf cX6_reelOf 2 (some .int) :: ([.fieldLink RX6 19 "HarnessRows" "wires" "LHarnessRows$Wires;", .fieldLink RX6 33 "HarnessRows" "reels" "LHarnessRows$Reels;", .methodLink RX6 99 yX5_count, .instanceMethod yX5_count, .selects RX5 yX5_count yX5_count, .initialized RX5, .code yX5_count cX5_count 1 (some .int), .fieldLink RX5 28 "HarnessRows$Wires" "wireCount" "I", .methodLink RX6 79 yX6_checkIndex, .static yX6_checkIndex, .initialized RX6, .code yX6_checkIndex cX6_checkIndex 2 none, .classLink RX6 190 "java/lang/IndexOutOfBoundsException", .initialized "java/lang/IndexOutOfBoundsException", .methodLink RX6 143 yX0_numberOf, .instanceMethod yX0_numberOf, .selects RX0 yX0_numberOf yX0_numberOf, .initialized RX0, .code yX0_numberOf cX0_numberOf 2 (some .int), .fieldLink RX0 9 "HarnessRows$Reels" "reelOfWire" "[I"] ++ wsX60 ++ wsX50 ++ wsX00 ++ (vx_atS RX6 194 "java/lang/IndexOutOfBoundsException" ["java/lang/RuntimeException", "java/lang/Exception"]).filter goodWord ++ (vx_atM "java/lang/ArrayIndexOutOfBoundsException" ["java/lang/IndexOutOfBoundsException", "java/lang/RuntimeException", "java/lang/Exception"]).filter goodWord)
def wsX6_splice_r1 : List Cond := [Cond.fieldLink RX6 19 "HarnessRows" "wires" "LHarnessRows$Wires;", Cond.fieldLink RX6 40 "HarnessRows" "splices" "LHarnessRows$Splices;", Cond.methodLink RX6 99 yX5_count, Cond.instanceMethod yX5_count, Cond.selects RX5 yX5_count yX5_count, Cond.initialized RX5, Cond.code yX5_count cX5_count 1 (some .int), Cond.fieldLink RX5 28 "HarnessRows$Wires" "wireCount" "I", Cond.methodLink RX6 79 yX6_checkIndex, Cond.static yX6_checkIndex, Cond.initialized RX6, Cond.code yX6_checkIndex cX6_checkIndex 2 none, Cond.classLink RX6 190 "java/lang/IndexOutOfBoundsException", Cond.initialized "java/lang/IndexOutOfBoundsException", Cond.methodLink RX6 146 yX1_add, Cond.instanceMethod yX1_add, Cond.selects RX1 yX1_add yX1_add, Cond.initialized RX1, Cond.code yX1_add cX1_add 3 (some .int), Cond.fieldLink RX1 18 "HarnessRows$Splices" "spliceCount" "I", Cond.fieldLink RX1 9 "HarnessRows$Splices" "partners" "[I", Cond.fieldLink RX1 15 "HarnessRows$Splices" "groups" "[I", Cond.static yX6_hasBit, Cond.code yX6_hasBit cX6_hasBit 2 (some .boolean)]
def wsX6_splice_r2 : List Cond := [Cond.methodLink RX1 26 yX1_mergeGroups, Cond.instanceMethod yX1_mergeGroups, Cond.selects RX1 yX1_mergeGroups yX1_mergeGroups, Cond.code yX1_mergeGroups cX1_mergeGroups 4 none]
def wsX6_splice : List Cond := .code yX6_splice cX6_splice 3 (some .int) :: ((wsX6_splice_r1 ++ wsX6_splice_r2) ++ wsX60 ++ wsX50 ++ wsX10 ++ (vx_atS RX6 194 "java/lang/IndexOutOfBoundsException" ["java/lang/RuntimeException", "java/lang/Exception"]).filter goodWord ++ (vx_atM "java/lang/ArrayIndexOutOfBoundsException" ["java/lang/IndexOutOfBoundsException", "java/lang/RuntimeException", "java/lang/Exception"]).filter goodWord)
def wsX6_joined_r1 : List Cond := [Cond.fieldLink RX6 19 "HarnessRows" "wires" "LHarnessRows$Wires;", Cond.fieldLink RX6 40 "HarnessRows" "splices" "LHarnessRows$Splices;", Cond.methodLink RX6 89 yX6_checkCavity, Cond.instanceMethod yX6_checkCavity, Cond.selects RX6 yX6_checkCavity yX6_checkCavity, Cond.initialized RX6, Cond.code yX6_checkCavity cX6_checkCavity 3 none, Cond.fieldLink RX6 10 "HarnessRows" "trees" "LHarnessRows$Trees;", Cond.methodLink RX6 75 yX3_nodeCount, Cond.instanceMethod yX3_nodeCount, Cond.selects RX3 yX3_nodeCount yX3_nodeCount, Cond.initialized RX3, Cond.code yX3_nodeCount cX3_nodeCount 1 (some .int), Cond.fieldLink RX3 28 "HarnessRows$Trees" "nodes" "I", Cond.methodLink RX6 79 yX6_checkIndex, Cond.static yX6_checkIndex, Cond.code yX6_checkIndex cX6_checkIndex 2 none, Cond.classLink RX6 190 "java/lang/IndexOutOfBoundsException", Cond.initialized "java/lang/IndexOutOfBoundsException", Cond.methodLink RX6 204 yX3_cavitiesOf, Cond.instanceMethod yX3_cavitiesOf, Cond.selects RX3 yX3_cavitiesOf yX3_cavitiesOf, Cond.code yX3_cavitiesOf cX3_cavitiesOf 2 (some .int), Cond.fieldLink RX3 9 "HarnessRows$Trees" "cavities" "[I"]
def wsX6_joined_r2 : List Cond := [Cond.methodLink RX6 92 yX6_endOf, Cond.static yX6_endOf, Cond.code yX6_endOf cX6_endOf 2 (some .int), Cond.methodLink RX6 147 yX5_wireAt, Cond.instanceMethod yX5_wireAt, Cond.selects RX5 yX5_wireAt yX5_wireAt, Cond.initialized RX5, Cond.code yX5_wireAt cX5_wireAt 3 (some .int), Cond.fieldLink RX5 28 "HarnessRows$Wires" "wireCount" "I", Cond.fieldLink RX5 9 "HarnessRows$Wires" "firstEnds" "[I", Cond.fieldLink RX5 15 "HarnessRows$Wires" "otherEnds" "[I", Cond.methodLink RX6 150 yX1_inOneGroup, Cond.instanceMethod yX1_inOneGroup, Cond.selects RX1 yX1_inOneGroup yX1_inOneGroup, Cond.initialized RX1, Cond.code yX1_inOneGroup cX1_inOneGroup 3 (some .boolean), Cond.fieldLink RX1 15 "HarnessRows$Splices" "groups" "[I"]
def wsX6_joined : List Cond := .code yX6_joined cX6_joined 9 (some .boolean) :: ((wsX6_joined_r1 ++ wsX6_joined_r2) ++ wsX60 ++ wsX30 ++ wsX50 ++ wsX10 ++ (vx_atS RX6 194 "java/lang/IndexOutOfBoundsException" ["java/lang/RuntimeException", "java/lang/Exception"]).filter goodWord ++ (vx_atM "java/lang/ArrayIndexOutOfBoundsException" ["java/lang/IndexOutOfBoundsException", "java/lang/RuntimeException", "java/lang/Exception"]).filter goodWord)
def wsX6_colour : List Cond := .code yX6_colour cX6_colour 2 (some .int) :: ([.fieldLink RX6 19 "HarnessRows" "wires" "LHarnessRows$Wires;", .methodLink RX6 99 yX5_count, .instanceMethod yX5_count, .selects RX5 yX5_count yX5_count, .initialized RX5, .code yX5_count cX5_count 1 (some .int), .fieldLink RX5 28 "HarnessRows$Wires" "wireCount" "I", .methodLink RX6 79 yX6_checkIndex, .static yX6_checkIndex, .initialized RX6, .code yX6_checkIndex cX6_checkIndex 2 none, .classLink RX6 190 "java/lang/IndexOutOfBoundsException", .initialized "java/lang/IndexOutOfBoundsException", .methodLink RX6 154 yX5_colourOf, .instanceMethod yX5_colourOf, .selects RX5 yX5_colourOf yX5_colourOf, .code yX5_colourOf cX5_colourOf 2 (some .int), .fieldLink RX5 18 "HarnessRows$Wires" "colours" "[I"] ++ wsX60 ++ wsX50 ++ (vx_atS RX6 194 "java/lang/IndexOutOfBoundsException" ["java/lang/RuntimeException", "java/lang/Exception"]).filter goodWord ++ (vx_atM "java/lang/ArrayIndexOutOfBoundsException" ["java/lang/IndexOutOfBoundsException", "java/lang/RuntimeException", "java/lang/Exception"]).filter goodWord)
def wsX6_variant : List Cond := .code yX6_variant cX6_variant 1 (some .int) :: ([.fieldLink RX6 47 "HarnessRows" "variants" "LHarnessRows$Variants;", .methodLink RX6 157 yX4_add, .instanceMethod yX4_add, .selects RX4 yX4_add yX4_add, .initialized RX4, .code yX4_add cX4_add 1 (some .int), .fieldLink RX4 18 "HarnessRows$Variants" "variantCount" "I"] ++ wsX60 ++ wsX40)
def wsX6_has_r1 : List Cond := [Cond.fieldLink RX6 47 "HarnessRows" "variants" "LHarnessRows$Variants;", Cond.fieldLink RX6 19 "HarnessRows" "wires" "LHarnessRows$Wires;", Cond.methodLink RX6 159 yX4_count, Cond.instanceMethod yX4_count, Cond.selects RX4 yX4_count yX4_count, Cond.initialized RX4, Cond.code yX4_count cX4_count 1 (some .int), Cond.fieldLink RX4 18 "HarnessRows$Variants" "variantCount" "I", Cond.methodLink RX6 79 yX6_checkIndex, Cond.static yX6_checkIndex, Cond.initialized RX6, Cond.code yX6_checkIndex cX6_checkIndex 2 none, Cond.classLink RX6 190 "java/lang/IndexOutOfBoundsException", Cond.initialized "java/lang/IndexOutOfBoundsException", Cond.methodLink RX6 99 yX5_count, Cond.instanceMethod yX5_count, Cond.selects RX5 yX5_count yX5_count, Cond.initialized RX5, Cond.code yX5_count cX5_count 1 (some .int), Cond.fieldLink RX5 28 "HarnessRows$Wires" "wireCount" "I", Cond.methodLink RX6 160 yX4_tellWire, Cond.instanceMethod yX4_tellWire, Cond.selects RX4 yX4_tellWire yX4_tellWire, Cond.code yX4_tellWire cX4_tellWire 6 (some .boolean)]
def wsX6_has_r2 : List Cond := [Cond.fieldLink RX4 9 "HarnessRows$Variants" "toldWires" "[I", Cond.fieldLink RX4 15 "HarnessRows$Variants" "onWires" "[I", Cond.methodLink RX4 22 yX4_isOn, Cond.instanceMethod yX4_isOn, Cond.selects RX4 yX4_isOn yX4_isOn, Cond.code yX4_isOn cX4_isOn 4 (some .boolean), Cond.static yX6_hasBit, Cond.code yX6_hasBit cX6_hasBit 2 (some .boolean)]
def wsX6_has : List Cond := .code yX6_has cX6_has 4 (some .boolean) :: ((wsX6_has_r1 ++ wsX6_has_r2) ++ wsX60 ++ wsX40 ++ wsX50 ++ (vx_atS RX6 194 "java/lang/IndexOutOfBoundsException" ["java/lang/RuntimeException", "java/lang/Exception"]).filter goodWord ++ (vx_atM "java/lang/ArrayIndexOutOfBoundsException" ["java/lang/IndexOutOfBoundsException", "java/lang/RuntimeException", "java/lang/Exception"]).filter goodWord)
def wsX6_told_r1 : List Cond := [Cond.fieldLink RX6 47 "HarnessRows" "variants" "LHarnessRows$Variants;", Cond.fieldLink RX6 19 "HarnessRows" "wires" "LHarnessRows$Wires;", Cond.methodLink RX6 79 yX6_checkIndex, Cond.static yX6_checkIndex, Cond.initialized RX6, Cond.code yX6_checkIndex cX6_checkIndex 2 none, Cond.classLink RX6 190 "java/lang/IndexOutOfBoundsException", Cond.initialized "java/lang/IndexOutOfBoundsException", Cond.methodLink RX6 99 yX5_count, Cond.instanceMethod yX5_count, Cond.selects RX5 yX5_count yX5_count, Cond.initialized RX5, Cond.code yX5_count cX5_count 1 (some .int), Cond.fieldLink RX5 28 "HarnessRows$Wires" "wireCount" "I", Cond.methodLink RX6 164 yX4_wireOff, Cond.instanceMethod yX4_wireOff, Cond.selects RX4 yX4_wireOff yX4_wireOff, Cond.initialized RX4, Cond.code yX4_wireOff cX4_wireOff 5 (some .int), Cond.fieldLink RX4 18 "HarnessRows$Variants" "variantCount" "I", Cond.methodLink RX4 22 yX4_isOn, Cond.instanceMethod yX4_isOn, Cond.selects RX4 yX4_isOn yX4_isOn, Cond.code yX4_isOn cX4_isOn 4 (some .boolean)]
def wsX6_told_r2 : List Cond := [Cond.fieldLink RX4 9 "HarnessRows$Variants" "toldWires" "[I", Cond.fieldLink RX4 15 "HarnessRows$Variants" "onWires" "[I", Cond.static yX6_hasBit, Cond.code yX6_hasBit cX6_hasBit 2 (some .boolean), Cond.methodLink RX6 167 yX5_firstEnd, Cond.instanceMethod yX5_firstEnd, Cond.selects RX5 yX5_firstEnd yX5_firstEnd, Cond.code yX5_firstEnd cX5_firstEnd 2 (some .int), Cond.fieldLink RX5 9 "HarnessRows$Wires" "firstEnds" "[I", Cond.methodLink RX6 170 yX5_otherEnd, Cond.instanceMethod yX5_otherEnd, Cond.selects RX5 yX5_otherEnd yX5_otherEnd, Cond.code yX5_otherEnd cX5_otherEnd 2 (some .int), Cond.fieldLink RX5 15 "HarnessRows$Wires" "otherEnds" "[I"]
def wsX6_told : List Cond := .code yX6_told cX6_told 4 (some .int) :: ((wsX6_told_r1 ++ wsX6_told_r2) ++ wsX60 ++ wsX50 ++ wsX40 ++ (vx_atS RX6 194 "java/lang/IndexOutOfBoundsException" ["java/lang/RuntimeException", "java/lang/Exception"]).filter goodWord ++ (vx_atM "java/lang/ArrayIndexOutOfBoundsException" ["java/lang/IndexOutOfBoundsException", "java/lang/RuntimeException", "java/lang/Exception"]).filter goodWord)
def wsX6_checkNotBelowZero : List Cond := .code yX6_checkNotBelowZero cX6_checkNotBelowZero 1 none :: ([.classLink RX6 190 "java/lang/IndexOutOfBoundsException", .initialized "java/lang/IndexOutOfBoundsException"] ++ (vx_atS RX6 194 "java/lang/IndexOutOfBoundsException" ["java/lang/RuntimeException", "java/lang/Exception"]).filter goodWord)
def wsJ8_hugeLength_7cf53 : List Cond := .code yJ8_hugeLength_7cf53 cJ8_hugeLength_7cf53 3 (some .int) :: ([.constant RJ8 200 (2147483639)])
def wsJ8_newLength_cabcc : List Cond := .code yJ8_newLength_cabcc cJ8_newLength_cabcc 4 (some .int) :: ([.methodLink RJ8 194 Lib.Math.max.name, .static Lib.Math.max.name, .initialized "java/lang/Math", .code Lib.Math.max.name Lib.Math.max.code 2 (some .int), .constant RJ8 200 (2147483639), .methodLink RJ8 201 yJ8_hugeLength_7cf53, .static yJ8_hugeLength_7cf53, .initialized RJ8, .code yJ8_hugeLength_7cf53 cJ8_hugeLength_7cf53 3 (some .int)])
def wsJ5_newCapacity_0f7a4 : List Cond := .code yJ5_newCapacity_0f7a4 cJ5_newCapacity_0f7a4 6 (some .int) :: ([.fieldLink RJ5 15 "java/lang/AbstractStringBuilder" "value" "[B", .fieldLink RJ5 22 "java/lang/AbstractStringBuilder" "coder" "B", .constant RJ5 39 (2147483647), .methodLink RJ5 114 yJ8_newLength_cabcc, .static yJ8_newLength_cabcc, .initialized RJ8, .code yJ8_newLength_cabcc cJ8_newLength_cabcc 4 (some .int), .methodLink RJ8 194 Lib.Math.max.name, .static Lib.Math.max.name, .initialized "java/lang/Math", .code Lib.Math.max.name Lib.Math.max.code 2 (some .int), .constant RJ8 200 (2147483639), .methodLink RJ8 201 yJ8_hugeLength_7cf53, .static yJ8_hugeLength_7cf53, .code yJ8_hugeLength_7cf53 cJ8_hugeLength_7cf53 3 (some .int)] ++ wsJ40)
def wsJ7_copyOf_9075b : List Cond := .code yJ7_copyOf_9075b cJ7_copyOf_9075b 3 (some (.array .byte)) :: ([.methodLink RJ7 310 ⟨"[B", "clone", "()Ljava/lang/Object;"⟩, .sameMethod "[B" "java/lang/Object" "clone" "()Ljava/lang/Object;", .native ⟨"java/lang/Object", "clone", "()Ljava/lang/Object;"⟩, .instanceMethod ⟨"java/lang/Object", "clone", "()Ljava/lang/Object;"⟩, .selects "[B" ⟨"[B", "clone", "()Ljava/lang/Object;"⟩ ⟨"java/lang/Object", "clone", "()Ljava/lang/Object;"⟩, .classLink RJ7 311 "[B", .arrayClass .byte, .methodLink RJ7 304 Lib.Math.min.name, .static Lib.Math.min.name, .initialized "java/lang/Math", .code Lib.Math.min.name Lib.Math.min.code 2 (some .int), .methodLink RJ7 150 arraycopyName, .native arraycopyName, .static arraycopyName, .initialized "java/lang/System"])
def wsJ5_ensureCapacityInternal_d00df_r1 : List Cond := [Cond.fieldLink RJ5 15 "java/lang/AbstractStringBuilder" "value" "[B", Cond.fieldLink RJ5 22 "java/lang/AbstractStringBuilder" "coder" "B", Cond.methodLink RJ5 104 ⟨"java/lang/AbstractStringBuilder", "newCapacity", "(I)I"⟩, Cond.sameMethod "java/lang/AbstractStringBuilder" "java/lang/AbstractStringBuilder" "newCapacity" "(I)I", Cond.selects RJ4 ⟨"java/lang/AbstractStringBuilder", "newCapacity", "(I)I"⟩ yJ5_newCapacity_0f7a4, Cond.instanceMethod yJ5_newCapacity_0f7a4, Cond.initialized RJ5, Cond.code yJ5_newCapacity_0f7a4 cJ5_newCapacity_0f7a4 6 (some .int), Cond.constant RJ5 39 (2147483647), Cond.methodLink RJ5 114 yJ8_newLength_cabcc, Cond.static yJ8_newLength_cabcc, Cond.initialized RJ8, Cond.code yJ8_newLength_cabcc cJ8_newLength_cabcc 4 (some .int), Cond.methodLink RJ8 194 Lib.Math.max.name, Cond.static Lib.Math.max.name, Cond.initialized "java/lang/Math", Cond.code Lib.Math.max.name Lib.Math.max.code 2 (some .int), Cond.constant RJ8 200 (2147483639), Cond.methodLink RJ8 201 yJ8_hugeLength_7cf53, Cond.static yJ8_hugeLength_7cf53, Cond.code yJ8_hugeLength_7cf53 cJ8_hugeLength_7cf53 3 (some .int), Cond.methodLink RJ5 108 yJ7_copyOf_9075b, Cond.static yJ7_copyOf_9075b, Cond.initialized RJ7]
def wsJ5_ensureCapacityInternal_d00df_r2 : List Cond := [Cond.code yJ7_copyOf_9075b cJ7_copyOf_9075b 3 (some (.array .byte)), Cond.methodLink RJ7 310 ⟨"[B", "clone", "()Ljava/lang/Object;"⟩, Cond.sameMethod "[B" "java/lang/Object" "clone" "()Ljava/lang/Object;", Cond.native ⟨"java/lang/Object", "clone", "()Ljava/lang/Object;"⟩, Cond.instanceMethod ⟨"java/lang/Object", "clone", "()Ljava/lang/Object;"⟩, Cond.selects "[B" ⟨"[B", "clone", "()Ljava/lang/Object;"⟩ ⟨"java/lang/Object", "clone", "()Ljava/lang/Object;"⟩, Cond.classLink RJ7 311 "[B", Cond.arrayClass .byte, Cond.methodLink RJ7 304 Lib.Math.min.name, Cond.static Lib.Math.min.name, Cond.code Lib.Math.min.name Lib.Math.min.code 2 (some .int), Cond.methodLink RJ7 150 arraycopyName, Cond.native arraycopyName, Cond.static arraycopyName, Cond.initialized "java/lang/System"]
def wsJ5_ensureCapacityInternal_d00df : List Cond := .code yJ5_ensureCapacityInternal_d00df cJ5_ensureCapacityInternal_d00df 3 none :: ((wsJ5_ensureCapacityInternal_d00df_r1 ++ wsJ5_ensureCapacityInternal_d00df_r2) ++ wsJ40)
def wsJ5_isLatin1_aae02 : List Cond := .code yJ5_isLatin1_aae02 cJ5_isLatin1_aae02 1 (some .boolean) :: ([.fieldLink RJ5 18 "java/lang/String" "COMPACT_STRINGS" "Z", .fieldLink RJ5 22 "java/lang/AbstractStringBuilder" "coder" "B"] ++ wsJ40)
def wsJ7_rangeCheck_23922 : List Cond := .code yJ7_rangeCheck_23922 cJ7_rangeCheck_23922 3 none :: ([.classLink RJ7 45 RJ4, .instantiable RJ4 4, .initialized RJ4, .classLink RJ7 68 RJx00060, .instantiable RJx00060 6, .initialized RJx00060] ++ wsJ40 ++ wsJx000600)
def wsJ7_fill_eb02e : List Cond := .code yJ7_fill_eb02e cJ7_fill_eb02e 5 none :: ([.methodLink RJ7 13 yJ7_rangeCheck_23922, .static yJ7_rangeCheck_23922, .initialized RJ7, .code yJ7_rangeCheck_23922 cJ7_rangeCheck_23922 3 none, .classLink RJ7 45 RJ4, .instantiable RJ4 4, .initialized RJ4, .classLink RJ7 68 RJx00060, .instantiable RJx00060 6, .initialized RJx00060] ++ wsJ40 ++ wsJx000600)
def wsJ1_fillNull_b72d1 : List Cond := .code yJ1_fillNull_b72d1 cJ1_fillNull_b72d1 3 none :: ([.methodLink RJ1 236 yJ7_fill_eb02e, .static yJ7_fill_eb02e, .initialized RJ7, .code yJ7_fill_eb02e cJ7_fill_eb02e 5 none, .methodLink RJ7 13 yJ7_rangeCheck_23922, .static yJ7_rangeCheck_23922, .code yJ7_rangeCheck_23922 cJ7_rangeCheck_23922 3 none, .classLink RJ7 45 RJ4, .instantiable RJ4 4, .initialized RJ4, .classLink RJ7 68 RJx00060, .instantiable RJx00060 6, .initialized RJx00060] ++ wsJ40 ++ wsJx000600)
def wsJ2_fillNull_b72d1 : List Cond := .code yJ2_fillNull_b72d1 cJ2_fillNull_b72d1 3 none :: ([.methodLink RJ2 380 yJ7_fill_eb02e, .static yJ7_fill_eb02e, .initialized RJ7, .code yJ7_fill_eb02e cJ7_fill_eb02e 5 none, .methodLink RJ7 13 yJ7_rangeCheck_23922, .static yJ7_rangeCheck_23922, .code yJ7_rangeCheck_23922 cJ7_rangeCheck_23922 3 none, .classLink RJ7 45 RJ4, .instantiable RJ4 4, .initialized RJ4, .classLink RJ7 68 RJx00060, .instantiable RJx00060 6, .initialized RJx00060] ++ wsJ40 ++ wsJx000600)
def wsJ5_setLength_d00df_r1 : List Cond := [Cond.classLink RJ5 129 RJx7c733, Cond.instantiable RJx7c733 6, Cond.initialized RJx7c733, Cond.fieldLink RJ5 79 "java/lang/AbstractStringBuilder" "count" "I", Cond.fieldLink RJ5 15 "java/lang/AbstractStringBuilder" "value" "[B", Cond.fieldLink RJ5 73 "java/lang/AbstractStringBuilder" "maybeLatin1" "Z", Cond.methodLink RJ5 100 ⟨"java/lang/AbstractStringBuilder", "ensureCapacityInternal", "(I)V"⟩, Cond.sameMethod "java/lang/AbstractStringBuilder" "java/lang/AbstractStringBuilder" "ensureCapacityInternal" "(I)V", Cond.selects RJ4 ⟨"java/lang/AbstractStringBuilder", "ensureCapacityInternal", "(I)V"⟩ yJ5_ensureCapacityInternal_d00df, Cond.instanceMethod yJ5_ensureCapacityInternal_d00df, Cond.initialized RJ5, Cond.code yJ5_ensureCapacityInternal_d00df cJ5_ensureCapacityInternal_d00df 3 none, Cond.fieldLink RJ5 22 "java/lang/AbstractStringBuilder" "coder" "B", Cond.methodLink RJ5 104 ⟨"java/lang/AbstractStringBuilder", "newCapacity", "(I)I"⟩, Cond.sameMethod "java/lang/AbstractStringBuilder" "java/lang/AbstractStringBuilder" "newCapacity" "(I)I", Cond.selects RJ4 ⟨"java/lang/AbstractStringBuilder", "newCapacity", "(I)I"⟩ yJ5_newCapacity_0f7a4, Cond.instanceMethod yJ5_newCapacity_0f7a4, Cond.code yJ5_newCapacity_0f7a4 cJ5_newCapacity_0f7a4 6 (some .int), Cond.constant RJ5 39 (2147483647), Cond.methodLink RJ5 114 yJ8_newLength_cabcc, Cond.static yJ8_newLength_cabcc, Cond.initialized RJ8, Cond.code yJ8_newLength_cabcc cJ8_newLength_cabcc 4 (some .int), Cond.methodLink RJ8 194 Lib.Math.max.name]
def wsJ5_setLength_d00df_r2 : List Cond := [Cond.static Lib.Math.max.name, Cond.initialized "java/lang/Math", Cond.code Lib.Math.max.name Lib.Math.max.code 2 (some .int), Cond.constant RJ8 200 (2147483639), Cond.methodLink RJ8 201 yJ8_hugeLength_7cf53, Cond.static yJ8_hugeLength_7cf53, Cond.code yJ8_hugeLength_7cf53 cJ8_hugeLength_7cf53 3 (some .int), Cond.methodLink RJ5 108 yJ7_copyOf_9075b, Cond.static yJ7_copyOf_9075b, Cond.initialized RJ7, Cond.code yJ7_copyOf_9075b cJ7_copyOf_9075b 3 (some (.array .byte)), Cond.methodLink RJ7 310 ⟨"[B", "clone", "()Ljava/lang/Object;"⟩, Cond.sameMethod "[B" "java/lang/Object" "clone" "()Ljava/lang/Object;", Cond.native ⟨"java/lang/Object", "clone", "()Ljava/lang/Object;"⟩, Cond.instanceMethod ⟨"java/lang/Object", "clone", "()Ljava/lang/Object;"⟩, Cond.selects "[B" ⟨"[B", "clone", "()Ljava/lang/Object;"⟩ ⟨"java/lang/Object", "clone", "()Ljava/lang/Object;"⟩, Cond.classLink RJ7 311 "[B", Cond.arrayClass .byte, Cond.methodLink RJ7 304 Lib.Math.min.name, Cond.static Lib.Math.min.name, Cond.code Lib.Math.min.name Lib.Math.min.code 2 (some .int), Cond.methodLink RJ7 150 arraycopyName, Cond.native arraycopyName, Cond.static arraycopyName]
def wsJ5_setLength_d00df_r3 : List Cond := [Cond.initialized "java/lang/System", Cond.methodLink RJ5 83 ⟨"java/lang/AbstractStringBuilder", "isLatin1", "()Z"⟩, Cond.sameMethod "java/lang/AbstractStringBuilder" "java/lang/AbstractStringBuilder" "isLatin1" "()Z", Cond.selects RJ4 ⟨"java/lang/AbstractStringBuilder", "isLatin1", "()Z"⟩ yJ5_isLatin1_aae02, Cond.instanceMethod yJ5_isLatin1_aae02, Cond.code yJ5_isLatin1_aae02 cJ5_isLatin1_aae02 1 (some .boolean), Cond.fieldLink RJ5 18 "java/lang/String" "COMPACT_STRINGS" "Z", Cond.methodLink RJ5 133 yJ1_fillNull_b72d1, Cond.static yJ1_fillNull_b72d1, Cond.initialized RJ1, Cond.code yJ1_fillNull_b72d1 cJ1_fillNull_b72d1 3 none, Cond.methodLink RJ1 236 yJ7_fill_eb02e, Cond.static yJ7_fill_eb02e, Cond.code yJ7_fill_eb02e cJ7_fill_eb02e 5 none, Cond.methodLink RJ7 13 yJ7_rangeCheck_23922, Cond.static yJ7_rangeCheck_23922, Cond.code yJ7_rangeCheck_23922 cJ7_rangeCheck_23922 3 none, Cond.classLink RJ7 45 RJ4, Cond.instantiable RJ4 4, Cond.initialized RJ4, Cond.classLink RJ7 68 RJx00060, Cond.instantiable RJx00060 6, Cond.initialized RJx00060, Cond.methodLink RJ5 137 yJ2_fillNull_b72d1]
def wsJ5_setLength_d00df_r4 : List Cond := [Cond.static yJ2_fillNull_b72d1, Cond.initialized RJ2, Cond.code yJ2_fillNull_b72d1 cJ2_fillNull_b72d1 3 none, Cond.methodLink RJ2 380 yJ7_fill_eb02e]
def wsJ5_setLength_d00df : List Cond := .code yJ5_setLength_d00df cJ5_setLength_d00df 2 none :: ((wsJ5_setLength_d00df_r1 ++ (wsJ5_setLength_d00df_r2 ++ (wsJ5_setLength_d00df_r3 ++ wsJ5_setLength_d00df_r4))) ++ wsJx7c7330 ++ wsJ40 ++ wsJx000600)
def wsJ4_setLength_d00df_r1 : List Cond := [Cond.methodLink RJ4 333 yJ5_setLength_d00df, Cond.sameMethod "java/lang/AbstractStringBuilder" "java/lang/AbstractStringBuilder" "setLength" "(I)V", Cond.superclass RJ4 RJ5, Cond.instanceMethod yJ5_setLength_d00df, Cond.initialized RJ5, Cond.code yJ5_setLength_d00df cJ5_setLength_d00df 2 none, Cond.classLink RJ5 129 RJx7c733, Cond.instantiable RJx7c733 6, Cond.initialized RJx7c733, Cond.fieldLink RJ5 79 "java/lang/AbstractStringBuilder" "count" "I", Cond.fieldLink RJ5 15 "java/lang/AbstractStringBuilder" "value" "[B", Cond.fieldLink RJ5 73 "java/lang/AbstractStringBuilder" "maybeLatin1" "Z", Cond.methodLink RJ5 100 ⟨"java/lang/AbstractStringBuilder", "ensureCapacityInternal", "(I)V"⟩, Cond.sameMethod "java/lang/AbstractStringBuilder" "java/lang/AbstractStringBuilder" "ensureCapacityInternal" "(I)V", Cond.selects RJ4 ⟨"java/lang/AbstractStringBuilder", "ensureCapacityInternal", "(I)V"⟩ yJ5_ensureCapacityInternal_d00df, Cond.instanceMethod yJ5_ensureCapacityInternal_d00df, Cond.code yJ5_ensureCapacityInternal_d00df cJ5_ensureCapacityInternal_d00df 3 none, Cond.fieldLink RJ5 22 "java/lang/AbstractStringBuilder" "coder" "B", Cond.methodLink RJ5 104 ⟨"java/lang/AbstractStringBuilder", "newCapacity", "(I)I"⟩, Cond.sameMethod "java/lang/AbstractStringBuilder" "java/lang/AbstractStringBuilder" "newCapacity" "(I)I", Cond.selects RJ4 ⟨"java/lang/AbstractStringBuilder", "newCapacity", "(I)I"⟩ yJ5_newCapacity_0f7a4, Cond.instanceMethod yJ5_newCapacity_0f7a4, Cond.code yJ5_newCapacity_0f7a4 cJ5_newCapacity_0f7a4 6 (some .int), Cond.constant RJ5 39 (2147483647)]
def wsJ4_setLength_d00df_r2 : List Cond := [Cond.methodLink RJ5 114 yJ8_newLength_cabcc, Cond.static yJ8_newLength_cabcc, Cond.initialized RJ8, Cond.code yJ8_newLength_cabcc cJ8_newLength_cabcc 4 (some .int), Cond.methodLink RJ8 194 Lib.Math.max.name, Cond.static Lib.Math.max.name, Cond.initialized "java/lang/Math", Cond.code Lib.Math.max.name Lib.Math.max.code 2 (some .int), Cond.constant RJ8 200 (2147483639), Cond.methodLink RJ8 201 yJ8_hugeLength_7cf53, Cond.static yJ8_hugeLength_7cf53, Cond.code yJ8_hugeLength_7cf53 cJ8_hugeLength_7cf53 3 (some .int), Cond.methodLink RJ5 108 yJ7_copyOf_9075b, Cond.static yJ7_copyOf_9075b, Cond.initialized RJ7, Cond.code yJ7_copyOf_9075b cJ7_copyOf_9075b 3 (some (.array .byte)), Cond.methodLink RJ7 310 ⟨"[B", "clone", "()Ljava/lang/Object;"⟩, Cond.sameMethod "[B" "java/lang/Object" "clone" "()Ljava/lang/Object;", Cond.native ⟨"java/lang/Object", "clone", "()Ljava/lang/Object;"⟩, Cond.instanceMethod ⟨"java/lang/Object", "clone", "()Ljava/lang/Object;"⟩, Cond.selects "[B" ⟨"[B", "clone", "()Ljava/lang/Object;"⟩ ⟨"java/lang/Object", "clone", "()Ljava/lang/Object;"⟩, Cond.classLink RJ7 311 "[B", Cond.arrayClass .byte, Cond.methodLink RJ7 304 Lib.Math.min.name]
def wsJ4_setLength_d00df_r3 : List Cond := [Cond.static Lib.Math.min.name, Cond.code Lib.Math.min.name Lib.Math.min.code 2 (some .int), Cond.methodLink RJ7 150 arraycopyName, Cond.native arraycopyName, Cond.static arraycopyName, Cond.initialized "java/lang/System", Cond.methodLink RJ5 83 ⟨"java/lang/AbstractStringBuilder", "isLatin1", "()Z"⟩, Cond.sameMethod "java/lang/AbstractStringBuilder" "java/lang/AbstractStringBuilder" "isLatin1" "()Z", Cond.selects RJ4 ⟨"java/lang/AbstractStringBuilder", "isLatin1", "()Z"⟩ yJ5_isLatin1_aae02, Cond.instanceMethod yJ5_isLatin1_aae02, Cond.code yJ5_isLatin1_aae02 cJ5_isLatin1_aae02 1 (some .boolean), Cond.fieldLink RJ5 18 "java/lang/String" "COMPACT_STRINGS" "Z", Cond.methodLink RJ5 133 yJ1_fillNull_b72d1, Cond.static yJ1_fillNull_b72d1, Cond.initialized RJ1, Cond.code yJ1_fillNull_b72d1 cJ1_fillNull_b72d1 3 none, Cond.methodLink RJ1 236 yJ7_fill_eb02e, Cond.static yJ7_fill_eb02e, Cond.code yJ7_fill_eb02e cJ7_fill_eb02e 5 none, Cond.methodLink RJ7 13 yJ7_rangeCheck_23922, Cond.static yJ7_rangeCheck_23922, Cond.code yJ7_rangeCheck_23922 cJ7_rangeCheck_23922 3 none, Cond.classLink RJ7 45 RJ4, Cond.instantiable RJ4 4]
def wsJ4_setLength_d00df_r4 : List Cond := [Cond.initialized RJ4, Cond.classLink RJ7 68 RJx00060, Cond.instantiable RJx00060 6, Cond.initialized RJx00060, Cond.methodLink RJ5 137 yJ2_fillNull_b72d1, Cond.static yJ2_fillNull_b72d1, Cond.initialized RJ2, Cond.code yJ2_fillNull_b72d1 cJ2_fillNull_b72d1 3 none, Cond.methodLink RJ2 380 yJ7_fill_eb02e]
def wsJ4_setLength_d00df : List Cond := .code yJ4_setLength_d00df cJ4_setLength_d00df 2 none :: ((wsJ4_setLength_d00df_r1 ++ (wsJ4_setLength_d00df_r2 ++ (wsJ4_setLength_d00df_r3 ++ wsJ4_setLength_d00df_r4))) ++ wsJx7c7330 ++ wsJ40 ++ wsJx000600)
def wsJ1_canEncode_fc78d : List Cond := .code yJ1_canEncode_fc78d cJ1_canEncode_fc78d 1 (some .boolean) :: ([])
def wsJ2_length_9d52b : List Cond := .code yJ2_length_9d52b cJ2_length_9d52b 1 (some .int) :: ([])
def wsJ3_checkFromIndexSize_8c36e : List Cond := .code yJ3_checkFromIndexSize_8c36e cJ3_checkFromIndexSize_8c36e 4 (some .int) :: ([])
def wsJ0_checkBoundsOffCount_cabcc : List Cond := .code yJ0_checkBoundsOffCount_cabcc cJ0_checkBoundsOffCount_cabcc 3 (some .int) :: ([.fieldLink RJ0 1053 "jdk/internal/util/Preconditions" "SIOOBE_FORMATTER" "Ljava/util/function/BiFunction;", .methodLink RJ0 1065 yJ3_checkFromIndexSize_8c36e, .static yJ3_checkFromIndexSize_8c36e, .initialized RJ3, .code yJ3_checkFromIndexSize_8c36e cJ3_checkFromIndexSize_8c36e 4 (some .int)])
def wsJ2_checkBoundsOffCount_d044e : List Cond := .code yJ2_checkBoundsOffCount_d044e cJ2_checkBoundsOffCount_d044e 3 none :: ([.methodLink RJ2 48 yJ2_length_9d52b, .static yJ2_length_9d52b, .initialized RJ2, .code yJ2_length_9d52b cJ2_length_9d52b 1 (some .int), .methodLink RJ2 419 yJ0_checkBoundsOffCount_cabcc, .static yJ0_checkBoundsOffCount_cabcc, .initialized RJ0, .code yJ0_checkBoundsOffCount_cabcc cJ0_checkBoundsOffCount_cabcc 3 (some .int), .fieldLink RJ0 1053 "jdk/internal/util/Preconditions" "SIOOBE_FORMATTER" "Ljava/util/function/BiFunction;", .methodLink RJ0 1065 yJ3_checkFromIndexSize_8c36e, .static yJ3_checkFromIndexSize_8c36e, .initialized RJ3, .code yJ3_checkFromIndexSize_8c36e cJ3_checkFromIndexSize_8c36e 4 (some .int)])
def wsJ2_putChar_b72d1 : List Cond := .code yJ2_putChar_b72d1 cJ2_putChar_b72d1 3 none :: ([.fieldLink RJ2 44 "java/lang/StringUTF16" "$assertionsDisabled" "Z", .fieldLink RJ2 59 "java/lang/StringUTF16" "HI_BYTE_SHIFT" "I", .fieldLink RJ2 63 "java/lang/StringUTF16" "LO_BYTE_SHIFT" "I", .methodLink RJ2 48 yJ2_length_9d52b, .static yJ2_length_9d52b, .initialized RJ2, .code yJ2_length_9d52b cJ2_length_9d52b 1 (some .int)])
def wsJ2_inflate_0e8fd : List Cond := .code yJ2_inflate_0e8fd cJ2_inflate_0e8fd 6 none :: ([.methodLink RJ2 173 yJ2_checkBoundsOffCount_d044e, .static yJ2_checkBoundsOffCount_d044e, .initialized RJ2, .code yJ2_checkBoundsOffCount_d044e cJ2_checkBoundsOffCount_d044e 3 none, .methodLink RJ2 48 yJ2_length_9d52b, .static yJ2_length_9d52b, .code yJ2_length_9d52b cJ2_length_9d52b 1 (some .int), .methodLink RJ2 419 yJ0_checkBoundsOffCount_cabcc, .static yJ0_checkBoundsOffCount_cabcc, .initialized RJ0, .code yJ0_checkBoundsOffCount_cabcc cJ0_checkBoundsOffCount_cabcc 3 (some .int), .fieldLink RJ0 1053 "jdk/internal/util/Preconditions" "SIOOBE_FORMATTER" "Ljava/util/function/BiFunction;", .methodLink RJ0 1065 yJ3_checkFromIndexSize_8c36e, .static yJ3_checkFromIndexSize_8c36e, .initialized RJ3, .code yJ3_checkFromIndexSize_8c36e cJ3_checkFromIndexSize_8c36e 4 (some .int), .methodLink RJ2 111 yJ2_putChar_b72d1, .static yJ2_putChar_b72d1, .code yJ2_putChar_b72d1 cJ2_putChar_b72d1 3 none, .fieldLink RJ2 44 "java/lang/StringUTF16" "$assertionsDisabled" "Z", .fieldLink RJ2 59 "java/lang/StringUTF16" "HI_BYTE_SHIFT" "I", .fieldLink RJ2 63 "java/lang/StringUTF16" "LO_BYTE_SHIFT" "I"])
def wsJ1_inflate_0e8fd_r1 : List Cond := [Cond.methodLink RJ1 240 yJ2_inflate_0e8fd, Cond.static yJ2_inflate_0e8fd, Cond.initialized RJ2, Cond.code yJ2_inflate_0e8fd cJ2_inflate_0e8fd 6 none, Cond.methodLink RJ2 173 yJ2_checkBoundsOffCount_d044e, Cond.static yJ2_checkBoundsOffCount_d044e, Cond.code yJ2_checkBoundsOffCount_d044e cJ2_checkBoundsOffCount_d044e 3 none, Cond.methodLink RJ2 48 yJ2_length_9d52b, Cond.static yJ2_length_9d52b, Cond.code yJ2_length_9d52b cJ2_length_9d52b 1 (some .int), Cond.methodLink RJ2 419 yJ0_checkBoundsOffCount_cabcc, Cond.static yJ0_checkBoundsOffCount_cabcc, Cond.initialized RJ0, Cond.code yJ0_checkBoundsOffCount_cabcc cJ0_checkBoundsOffCount_cabcc 3 (some .int), Cond.fieldLink RJ0 1053 "jdk/internal/util/Preconditions" "SIOOBE_FORMATTER" "Ljava/util/function/BiFunction;", Cond.methodLink RJ0 1065 yJ3_checkFromIndexSize_8c36e, Cond.static yJ3_checkFromIndexSize_8c36e, Cond.initialized RJ3, Cond.code yJ3_checkFromIndexSize_8c36e cJ3_checkFromIndexSize_8c36e 4 (some .int), Cond.methodLink RJ2 111 yJ2_putChar_b72d1, Cond.static yJ2_putChar_b72d1, Cond.code yJ2_putChar_b72d1 cJ2_putChar_b72d1 3 none, Cond.fieldLink RJ2 44 "java/lang/StringUTF16" "$assertionsDisabled" "Z", Cond.fieldLink RJ2 59 "java/lang/StringUTF16" "HI_BYTE_SHIFT" "I"]
def wsJ1_inflate_0e8fd_r2 : List Cond := [Cond.fieldLink RJ2 63 "java/lang/StringUTF16" "LO_BYTE_SHIFT" "I"]
def wsJ1_inflate_0e8fd : List Cond := .code yJ1_inflate_0e8fd cJ1_inflate_0e8fd 5 none :: ((wsJ1_inflate_0e8fd_r1 ++ wsJ1_inflate_0e8fd_r2))
def wsJ5_inflate_da8c8_r1 : List Cond := [Cond.fieldLink RJ5 15 "java/lang/AbstractStringBuilder" "value" "[B", Cond.fieldLink RJ5 79 "java/lang/AbstractStringBuilder" "count" "I", Cond.fieldLink RJ5 22 "java/lang/AbstractStringBuilder" "coder" "B", Cond.methodLink RJ5 83 ⟨"java/lang/AbstractStringBuilder", "isLatin1", "()Z"⟩, Cond.sameMethod "java/lang/AbstractStringBuilder" "java/lang/AbstractStringBuilder" "isLatin1" "()Z", Cond.selects RJ4 ⟨"java/lang/AbstractStringBuilder", "isLatin1", "()Z"⟩ yJ5_isLatin1_aae02, Cond.instanceMethod yJ5_isLatin1_aae02, Cond.initialized RJ5, Cond.code yJ5_isLatin1_aae02 cJ5_isLatin1_aae02 1 (some .boolean), Cond.fieldLink RJ5 18 "java/lang/String" "COMPACT_STRINGS" "Z", Cond.methodLink RJ5 26 yJ2_newBytesFor_77867, Cond.static yJ2_newBytesFor_77867, Cond.initialized RJ2, Cond.code yJ2_newBytesFor_77867 cJ2_newBytesFor_77867 1 (some (.array .byte)), Cond.arrayClass .byte, Cond.methodLink RJ2 11 yJ2_newBytesLength_0f7a4, Cond.static yJ2_newBytesLength_0f7a4, Cond.code yJ2_newBytesLength_0f7a4 cJ2_newBytesLength_0f7a4 1 (some .int), Cond.constant RJ2 20 (1073741823), Cond.methodLink RJ5 125 yJ1_inflate_0e8fd, Cond.static yJ1_inflate_0e8fd, Cond.initialized RJ1, Cond.code yJ1_inflate_0e8fd cJ1_inflate_0e8fd 5 none, Cond.methodLink RJ1 240 yJ2_inflate_0e8fd]
def wsJ5_inflate_da8c8_r2 : List Cond := [Cond.static yJ2_inflate_0e8fd, Cond.code yJ2_inflate_0e8fd cJ2_inflate_0e8fd 6 none, Cond.methodLink RJ2 173 yJ2_checkBoundsOffCount_d044e, Cond.static yJ2_checkBoundsOffCount_d044e, Cond.code yJ2_checkBoundsOffCount_d044e cJ2_checkBoundsOffCount_d044e 3 none, Cond.methodLink RJ2 48 yJ2_length_9d52b, Cond.static yJ2_length_9d52b, Cond.code yJ2_length_9d52b cJ2_length_9d52b 1 (some .int), Cond.methodLink RJ2 419 yJ0_checkBoundsOffCount_cabcc, Cond.static yJ0_checkBoundsOffCount_cabcc, Cond.initialized RJ0, Cond.code yJ0_checkBoundsOffCount_cabcc cJ0_checkBoundsOffCount_cabcc 3 (some .int), Cond.fieldLink RJ0 1053 "jdk/internal/util/Preconditions" "SIOOBE_FORMATTER" "Ljava/util/function/BiFunction;", Cond.methodLink RJ0 1065 yJ3_checkFromIndexSize_8c36e, Cond.static yJ3_checkFromIndexSize_8c36e, Cond.initialized RJ3, Cond.code yJ3_checkFromIndexSize_8c36e cJ3_checkFromIndexSize_8c36e 4 (some .int), Cond.methodLink RJ2 111 yJ2_putChar_b72d1, Cond.static yJ2_putChar_b72d1, Cond.code yJ2_putChar_b72d1 cJ2_putChar_b72d1 3 none, Cond.fieldLink RJ2 44 "java/lang/StringUTF16" "$assertionsDisabled" "Z", Cond.fieldLink RJ2 59 "java/lang/StringUTF16" "HI_BYTE_SHIFT" "I", Cond.fieldLink RJ2 63 "java/lang/StringUTF16" "LO_BYTE_SHIFT" "I"]
def wsJ5_inflate_da8c8 : List Cond := .code yJ5_inflate_da8c8 cJ5_inflate_da8c8 2 none :: ((wsJ5_inflate_da8c8_r1 ++ wsJ5_inflate_da8c8_r2) ++ wsJ40)
def wsJ3_checkIndex_8e157 : List Cond := .code yJ3_checkIndex_8e157 cJ3_checkIndex_8e157 3 (some .int) :: ([])
def wsJ0_checkIndex_df160 : List Cond := .code yJ0_checkIndex_df160 cJ0_checkIndex_df160 2 none :: ([.fieldLink RJ0 1053 "jdk/internal/util/Preconditions" "SIOOBE_FORMATTER" "Ljava/util/function/BiFunction;", .methodLink RJ0 1059 yJ3_checkIndex_8e157, .static yJ3_checkIndex_8e157, .initialized RJ3, .code yJ3_checkIndex_8e157 cJ3_checkIndex_8e157 3 (some .int)])
def wsJ2_checkIndex_2214a : List Cond := .code yJ2_checkIndex_2214a cJ2_checkIndex_2214a 2 none :: ([.methodLink RJ2 48 yJ2_length_9d52b, .static yJ2_length_9d52b, .initialized RJ2, .code yJ2_length_9d52b cJ2_length_9d52b 1 (some .int), .methodLink RJ2 414 yJ0_checkIndex_df160, .static yJ0_checkIndex_df160, .initialized RJ0, .code yJ0_checkIndex_df160 cJ0_checkIndex_df160 2 none, .fieldLink RJ0 1053 "jdk/internal/util/Preconditions" "SIOOBE_FORMATTER" "Ljava/util/function/BiFunction;", .methodLink RJ0 1059 yJ3_checkIndex_8e157, .static yJ3_checkIndex_8e157, .initialized RJ3, .code yJ3_checkIndex_8e157 cJ3_checkIndex_8e157 3 (some .int)])
def wsJ2_putCharSB_b72d1 : List Cond := .code yJ2_putCharSB_b72d1 cJ2_putCharSB_b72d1 3 none :: ([.methodLink RJ2 67 yJ2_checkIndex_2214a, .static yJ2_checkIndex_2214a, .initialized RJ2, .code yJ2_checkIndex_2214a cJ2_checkIndex_2214a 2 none, .methodLink RJ2 48 yJ2_length_9d52b, .static yJ2_length_9d52b, .code yJ2_length_9d52b cJ2_length_9d52b 1 (some .int), .methodLink RJ2 414 yJ0_checkIndex_df160, .static yJ0_checkIndex_df160, .initialized RJ0, .code yJ0_checkIndex_df160 cJ0_checkIndex_df160 2 none, .fieldLink RJ0 1053 "jdk/internal/util/Preconditions" "SIOOBE_FORMATTER" "Ljava/util/function/BiFunction;", .methodLink RJ0 1059 yJ3_checkIndex_8e157, .static yJ3_checkIndex_8e157, .initialized RJ3, .code yJ3_checkIndex_8e157 cJ3_checkIndex_8e157 3 (some .int), .methodLink RJ2 111 yJ2_putChar_b72d1, .static yJ2_putChar_b72d1, .code yJ2_putChar_b72d1 cJ2_putChar_b72d1 3 none, .fieldLink RJ2 44 "java/lang/StringUTF16" "$assertionsDisabled" "Z", .fieldLink RJ2 59 "java/lang/StringUTF16" "HI_BYTE_SHIFT" "I", .fieldLink RJ2 63 "java/lang/StringUTF16" "LO_BYTE_SHIFT" "I"])
def wsJ5_append_3fe6f_r1 : List Cond := [Cond.fieldLink RJ5 79 "java/lang/AbstractStringBuilder" "count" "I", Cond.fieldLink RJ5 15 "java/lang/AbstractStringBuilder" "value" "[B", Cond.methodLink RJ5 100 ⟨"java/lang/AbstractStringBuilder", "ensureCapacityInternal", "(I)V"⟩, Cond.sameMethod "java/lang/AbstractStringBuilder" "java/lang/AbstractStringBuilder" "ensureCapacityInternal" "(I)V", Cond.selects RJ4 ⟨"java/lang/AbstractStringBuilder", "ensureCapacityInternal", "(I)V"⟩ yJ5_ensureCapacityInternal_d00df, Cond.instanceMethod yJ5_ensureCapacityInternal_d00df, Cond.initialized RJ5, Cond.code yJ5_ensureCapacityInternal_d00df cJ5_ensureCapacityInternal_d00df 3 none, Cond.fieldLink RJ5 22 "java/lang/AbstractStringBuilder" "coder" "B", Cond.methodLink RJ5 104 ⟨"java/lang/AbstractStringBuilder", "newCapacity", "(I)I"⟩, Cond.sameMethod "java/lang/AbstractStringBuilder" "java/lang/AbstractStringBuilder" "newCapacity" "(I)I", Cond.selects RJ4 ⟨"java/lang/AbstractStringBuilder", "newCapacity", "(I)I"⟩ yJ5_newCapacity_0f7a4, Cond.instanceMethod yJ5_newCapacity_0f7a4, Cond.code yJ5_newCapacity_0f7a4 cJ5_newCapacity_0f7a4 6 (some .int), Cond.constant RJ5 39 (2147483647), Cond.methodLink RJ5 114 yJ8_newLength_cabcc, Cond.static yJ8_newLength_cabcc, Cond.initialized RJ8, Cond.code yJ8_newLength_cabcc cJ8_newLength_cabcc 4 (some .int), Cond.methodLink RJ8 194 Lib.Math.max.name, Cond.static Lib.Math.max.name, Cond.initialized "java/lang/Math", Cond.code Lib.Math.max.name Lib.Math.max.code 2 (some .int), Cond.constant RJ8 200 (2147483639)]
def wsJ5_append_3fe6f_r2 : List Cond := [Cond.methodLink RJ8 201 yJ8_hugeLength_7cf53, Cond.static yJ8_hugeLength_7cf53, Cond.code yJ8_hugeLength_7cf53 cJ8_hugeLength_7cf53 3 (some .int), Cond.methodLink RJ5 108 yJ7_copyOf_9075b, Cond.static yJ7_copyOf_9075b, Cond.initialized RJ7, Cond.code yJ7_copyOf_9075b cJ7_copyOf_9075b 3 (some (.array .byte)), Cond.methodLink RJ7 310 ⟨"[B", "clone", "()Ljava/lang/Object;"⟩, Cond.sameMethod "[B" "java/lang/Object" "clone" "()Ljava/lang/Object;", Cond.native ⟨"java/lang/Object", "clone", "()Ljava/lang/Object;"⟩, Cond.instanceMethod ⟨"java/lang/Object", "clone", "()Ljava/lang/Object;"⟩, Cond.selects "[B" ⟨"[B", "clone", "()Ljava/lang/Object;"⟩ ⟨"java/lang/Object", "clone", "()Ljava/lang/Object;"⟩, Cond.classLink RJ7 311 "[B", Cond.arrayClass .byte, Cond.methodLink RJ7 304 Lib.Math.min.name, Cond.static Lib.Math.min.name, Cond.code Lib.Math.min.name Lib.Math.min.code 2 (some .int), Cond.methodLink RJ7 150 arraycopyName, Cond.native arraycopyName, Cond.static arraycopyName, Cond.initialized "java/lang/System", Cond.methodLink RJ5 83 ⟨"java/lang/AbstractStringBuilder", "isLatin1", "()Z"⟩, Cond.sameMethod "java/lang/AbstractStringBuilder" "java/lang/AbstractStringBuilder" "isLatin1" "()Z", Cond.selects RJ4 ⟨"java/lang/AbstractStringBuilder", "isLatin1", "()Z"⟩ yJ5_isLatin1_aae02]
def wsJ5_append_3fe6f_r3 : List Cond := [Cond.instanceMethod yJ5_isLatin1_aae02, Cond.code yJ5_isLatin1_aae02 cJ5_isLatin1_aae02 1 (some .boolean), Cond.fieldLink RJ5 18 "java/lang/String" "COMPACT_STRINGS" "Z", Cond.methodLink RJ5 191 yJ1_canEncode_fc78d, Cond.static yJ1_canEncode_fc78d, Cond.initialized RJ1, Cond.code yJ1_canEncode_fc78d cJ1_canEncode_fc78d 1 (some .boolean), Cond.methodLink RJ5 195 ⟨"java/lang/AbstractStringBuilder", "inflate", "()V"⟩, Cond.sameMethod "java/lang/AbstractStringBuilder" "java/lang/AbstractStringBuilder" "inflate" "()V", Cond.selects RJ4 ⟨"java/lang/AbstractStringBuilder", "inflate", "()V"⟩ yJ5_inflate_da8c8, Cond.instanceMethod yJ5_inflate_da8c8, Cond.code yJ5_inflate_da8c8 cJ5_inflate_da8c8 2 none, Cond.methodLink RJ5 26 yJ2_newBytesFor_77867, Cond.static yJ2_newBytesFor_77867, Cond.initialized RJ2, Cond.code yJ2_newBytesFor_77867 cJ2_newBytesFor_77867 1 (some (.array .byte)), Cond.methodLink RJ2 11 yJ2_newBytesLength_0f7a4, Cond.static yJ2_newBytesLength_0f7a4, Cond.code yJ2_newBytesLength_0f7a4 cJ2_newBytesLength_0f7a4 1 (some .int), Cond.constant RJ2 20 (1073741823), Cond.methodLink RJ5 125 yJ1_inflate_0e8fd, Cond.static yJ1_inflate_0e8fd, Cond.code yJ1_inflate_0e8fd cJ1_inflate_0e8fd 5 none, Cond.methodLink RJ1 240 yJ2_inflate_0e8fd]
def wsJ5_append_3fe6f_r4 : List Cond := [Cond.static yJ2_inflate_0e8fd, Cond.code yJ2_inflate_0e8fd cJ2_inflate_0e8fd 6 none, Cond.methodLink RJ2 173 yJ2_checkBoundsOffCount_d044e, Cond.static yJ2_checkBoundsOffCount_d044e, Cond.code yJ2_checkBoundsOffCount_d044e cJ2_checkBoundsOffCount_d044e 3 none, Cond.methodLink RJ2 48 yJ2_length_9d52b, Cond.static yJ2_length_9d52b, Cond.code yJ2_length_9d52b cJ2_length_9d52b 1 (some .int), Cond.methodLink RJ2 419 yJ0_checkBoundsOffCount_cabcc, Cond.static yJ0_checkBoundsOffCount_cabcc, Cond.initialized RJ0, Cond.code yJ0_checkBoundsOffCount_cabcc cJ0_checkBoundsOffCount_cabcc 3 (some .int), Cond.fieldLink RJ0 1053 "jdk/internal/util/Preconditions" "SIOOBE_FORMATTER" "Ljava/util/function/BiFunction;", Cond.methodLink RJ0 1065 yJ3_checkFromIndexSize_8c36e, Cond.static yJ3_checkFromIndexSize_8c36e, Cond.initialized RJ3, Cond.code yJ3_checkFromIndexSize_8c36e cJ3_checkFromIndexSize_8c36e 4 (some .int), Cond.methodLink RJ2 111 yJ2_putChar_b72d1, Cond.static yJ2_putChar_b72d1, Cond.code yJ2_putChar_b72d1 cJ2_putChar_b72d1 3 none, Cond.fieldLink RJ2 44 "java/lang/StringUTF16" "$assertionsDisabled" "Z", Cond.fieldLink RJ2 59 "java/lang/StringUTF16" "HI_BYTE_SHIFT" "I", Cond.fieldLink RJ2 63 "java/lang/StringUTF16" "LO_BYTE_SHIFT" "I", Cond.methodLink RJ5 197 yJ2_putCharSB_b72d1]
def wsJ5_append_3fe6f_r5 : List Cond := [Cond.static yJ2_putCharSB_b72d1, Cond.code yJ2_putCharSB_b72d1 cJ2_putCharSB_b72d1 3 none, Cond.methodLink RJ2 67 yJ2_checkIndex_2214a, Cond.static yJ2_checkIndex_2214a, Cond.code yJ2_checkIndex_2214a cJ2_checkIndex_2214a 2 none, Cond.methodLink RJ2 414 yJ0_checkIndex_df160, Cond.static yJ0_checkIndex_df160, Cond.code yJ0_checkIndex_df160 cJ0_checkIndex_df160 2 none, Cond.methodLink RJ0 1059 yJ3_checkIndex_8e157, Cond.static yJ3_checkIndex_8e157, Cond.code yJ3_checkIndex_8e157 cJ3_checkIndex_8e157 3 (some .int)]
def wsJ5_append_3fe6f : List Cond := .code yJ5_append_3fe6f cJ5_append_3fe6f 2 (some (.object "java/lang/AbstractStringBuilder")) :: ((wsJ5_append_3fe6f_r1 ++ (wsJ5_append_3fe6f_r2 ++ (wsJ5_append_3fe6f_r3 ++ (wsJ5_append_3fe6f_r4 ++ wsJ5_append_3fe6f_r5)))) ++ wsJ40)
def wsJ4_append_cf468_r1 : List Cond := [Cond.methodLink RJ4 50 yJ5_append_3fe6f, Cond.sameMethod "java/lang/AbstractStringBuilder" "java/lang/AbstractStringBuilder" "append" "(C)Ljava/lang/AbstractStringBuilder;", Cond.superclass RJ4 RJ5, Cond.instanceMethod yJ5_append_3fe6f, Cond.initialized RJ5, Cond.code yJ5_append_3fe6f cJ5_append_3fe6f 2 (some (.object "java/lang/AbstractStringBuilder")), Cond.fieldLink RJ5 79 "java/lang/AbstractStringBuilder" "count" "I", Cond.fieldLink RJ5 15 "java/lang/AbstractStringBuilder" "value" "[B", Cond.methodLink RJ5 100 ⟨"java/lang/AbstractStringBuilder", "ensureCapacityInternal", "(I)V"⟩, Cond.sameMethod "java/lang/AbstractStringBuilder" "java/lang/AbstractStringBuilder" "ensureCapacityInternal" "(I)V", Cond.selects RJ4 ⟨"java/lang/AbstractStringBuilder", "ensureCapacityInternal", "(I)V"⟩ yJ5_ensureCapacityInternal_d00df, Cond.instanceMethod yJ5_ensureCapacityInternal_d00df, Cond.code yJ5_ensureCapacityInternal_d00df cJ5_ensureCapacityInternal_d00df 3 none, Cond.fieldLink RJ5 22 "java/lang/AbstractStringBuilder" "coder" "B", Cond.methodLink RJ5 104 ⟨"java/lang/AbstractStringBuilder", "newCapacity", "(I)I"⟩, Cond.sameMethod "java/lang/AbstractStringBuilder" "java/lang/AbstractStringBuilder" "newCapacity" "(I)I", Cond.selects RJ4 ⟨"java/lang/AbstractStringBuilder", "newCapacity", "(I)I"⟩ yJ5_newCapacity_0f7a4, Cond.instanceMethod yJ5_newCapacity_0f7a4, Cond.code yJ5_newCapacity_0f7a4 cJ5_newCapacity_0f7a4 6 (some .int), Cond.constant RJ5 39 (2147483647), Cond.methodLink RJ5 114 yJ8_newLength_cabcc, Cond.static yJ8_newLength_cabcc, Cond.initialized RJ8, Cond.code yJ8_newLength_cabcc cJ8_newLength_cabcc 4 (some .int)]
def wsJ4_append_cf468_r2 : List Cond := [Cond.methodLink RJ8 194 Lib.Math.max.name, Cond.static Lib.Math.max.name, Cond.initialized "java/lang/Math", Cond.code Lib.Math.max.name Lib.Math.max.code 2 (some .int), Cond.constant RJ8 200 (2147483639), Cond.methodLink RJ8 201 yJ8_hugeLength_7cf53, Cond.static yJ8_hugeLength_7cf53, Cond.code yJ8_hugeLength_7cf53 cJ8_hugeLength_7cf53 3 (some .int), Cond.methodLink RJ5 108 yJ7_copyOf_9075b, Cond.static yJ7_copyOf_9075b, Cond.initialized RJ7, Cond.code yJ7_copyOf_9075b cJ7_copyOf_9075b 3 (some (.array .byte)), Cond.methodLink RJ7 310 ⟨"[B", "clone", "()Ljava/lang/Object;"⟩, Cond.sameMethod "[B" "java/lang/Object" "clone" "()Ljava/lang/Object;", Cond.native ⟨"java/lang/Object", "clone", "()Ljava/lang/Object;"⟩, Cond.instanceMethod ⟨"java/lang/Object", "clone", "()Ljava/lang/Object;"⟩, Cond.selects "[B" ⟨"[B", "clone", "()Ljava/lang/Object;"⟩ ⟨"java/lang/Object", "clone", "()Ljava/lang/Object;"⟩, Cond.classLink RJ7 311 "[B", Cond.arrayClass .byte, Cond.methodLink RJ7 304 Lib.Math.min.name, Cond.static Lib.Math.min.name, Cond.code Lib.Math.min.name Lib.Math.min.code 2 (some .int), Cond.methodLink RJ7 150 arraycopyName, Cond.native arraycopyName]
def wsJ4_append_cf468_r3 : List Cond := [Cond.static arraycopyName, Cond.initialized "java/lang/System", Cond.methodLink RJ5 83 ⟨"java/lang/AbstractStringBuilder", "isLatin1", "()Z"⟩, Cond.sameMethod "java/lang/AbstractStringBuilder" "java/lang/AbstractStringBuilder" "isLatin1" "()Z", Cond.selects RJ4 ⟨"java/lang/AbstractStringBuilder", "isLatin1", "()Z"⟩ yJ5_isLatin1_aae02, Cond.instanceMethod yJ5_isLatin1_aae02, Cond.code yJ5_isLatin1_aae02 cJ5_isLatin1_aae02 1 (some .boolean), Cond.fieldLink RJ5 18 "java/lang/String" "COMPACT_STRINGS" "Z", Cond.methodLink RJ5 191 yJ1_canEncode_fc78d, Cond.static yJ1_canEncode_fc78d, Cond.initialized RJ1, Cond.code yJ1_canEncode_fc78d cJ1_canEncode_fc78d 1 (some .boolean), Cond.methodLink RJ5 195 ⟨"java/lang/AbstractStringBuilder", "inflate", "()V"⟩, Cond.sameMethod "java/lang/AbstractStringBuilder" "java/lang/AbstractStringBuilder" "inflate" "()V", Cond.selects RJ4 ⟨"java/lang/AbstractStringBuilder", "inflate", "()V"⟩ yJ5_inflate_da8c8, Cond.instanceMethod yJ5_inflate_da8c8, Cond.code yJ5_inflate_da8c8 cJ5_inflate_da8c8 2 none, Cond.methodLink RJ5 26 yJ2_newBytesFor_77867, Cond.static yJ2_newBytesFor_77867, Cond.initialized RJ2, Cond.code yJ2_newBytesFor_77867 cJ2_newBytesFor_77867 1 (some (.array .byte)), Cond.methodLink RJ2 11 yJ2_newBytesLength_0f7a4, Cond.static yJ2_newBytesLength_0f7a4, Cond.code yJ2_newBytesLength_0f7a4 cJ2_newBytesLength_0f7a4 1 (some .int)]
def wsJ4_append_cf468_r4 : List Cond := [Cond.constant RJ2 20 (1073741823), Cond.methodLink RJ5 125 yJ1_inflate_0e8fd, Cond.static yJ1_inflate_0e8fd, Cond.code yJ1_inflate_0e8fd cJ1_inflate_0e8fd 5 none, Cond.methodLink RJ1 240 yJ2_inflate_0e8fd, Cond.static yJ2_inflate_0e8fd, Cond.code yJ2_inflate_0e8fd cJ2_inflate_0e8fd 6 none, Cond.methodLink RJ2 173 yJ2_checkBoundsOffCount_d044e, Cond.static yJ2_checkBoundsOffCount_d044e, Cond.code yJ2_checkBoundsOffCount_d044e cJ2_checkBoundsOffCount_d044e 3 none, Cond.methodLink RJ2 48 yJ2_length_9d52b, Cond.static yJ2_length_9d52b, Cond.code yJ2_length_9d52b cJ2_length_9d52b 1 (some .int), Cond.methodLink RJ2 419 yJ0_checkBoundsOffCount_cabcc, Cond.static yJ0_checkBoundsOffCount_cabcc, Cond.initialized RJ0, Cond.code yJ0_checkBoundsOffCount_cabcc cJ0_checkBoundsOffCount_cabcc 3 (some .int), Cond.fieldLink RJ0 1053 "jdk/internal/util/Preconditions" "SIOOBE_FORMATTER" "Ljava/util/function/BiFunction;", Cond.methodLink RJ0 1065 yJ3_checkFromIndexSize_8c36e, Cond.static yJ3_checkFromIndexSize_8c36e, Cond.initialized RJ3, Cond.code yJ3_checkFromIndexSize_8c36e cJ3_checkFromIndexSize_8c36e 4 (some .int), Cond.methodLink RJ2 111 yJ2_putChar_b72d1, Cond.static yJ2_putChar_b72d1]
def wsJ4_append_cf468_r5 : List Cond := [Cond.code yJ2_putChar_b72d1 cJ2_putChar_b72d1 3 none, Cond.fieldLink RJ2 44 "java/lang/StringUTF16" "$assertionsDisabled" "Z", Cond.fieldLink RJ2 59 "java/lang/StringUTF16" "HI_BYTE_SHIFT" "I", Cond.fieldLink RJ2 63 "java/lang/StringUTF16" "LO_BYTE_SHIFT" "I", Cond.methodLink RJ5 197 yJ2_putCharSB_b72d1, Cond.static yJ2_putCharSB_b72d1, Cond.code yJ2_putCharSB_b72d1 cJ2_putCharSB_b72d1 3 none, Cond.methodLink RJ2 67 yJ2_checkIndex_2214a, Cond.static yJ2_checkIndex_2214a, Cond.code yJ2_checkIndex_2214a cJ2_checkIndex_2214a 2 none, Cond.methodLink RJ2 414 yJ0_checkIndex_df160, Cond.static yJ0_checkIndex_df160, Cond.code yJ0_checkIndex_df160 cJ0_checkIndex_df160 2 none, Cond.methodLink RJ0 1059 yJ3_checkIndex_8e157, Cond.static yJ3_checkIndex_8e157, Cond.code yJ3_checkIndex_8e157 cJ3_checkIndex_8e157 3 (some .int)]
def wsJ4_append_cf468 : List Cond := .code yJ4_append_cf468 cJ4_append_cf468 2 (some (.object "java/lang/StringBuilder")) :: ((wsJ4_append_cf468_r1 ++ (wsJ4_append_cf468_r2 ++ (wsJ4_append_cf468_r3 ++ (wsJ4_append_cf468_r4 ++ wsJ4_append_cf468_r5)))) ++ wsJ40)
def wsJ6_stringSize_0f7a4 : List Cond := .code yJ6_stringSize_0f7a4 cJ6_stringSize_0f7a4 4 (some .int) :: ([])
def wsJ6_getChars_ba4f3 : List Cond := .code yJ6_getChars_ba4f3 cJ6_getChars_ba4f3 7 (some .int) :: ([.fieldLink RJ6 83 "java/lang/Integer" "DigitOnes" "[B", .fieldLink RJ6 87 "java/lang/Integer" "DigitTens" "[B"])
def wsJ3_checkFromToIndex_8c36e : List Cond := .code yJ3_checkFromToIndex_8c36e cJ3_checkFromToIndex_8c36e 4 (some .int) :: ([])
def wsJ0_checkBoundsBeginEnd_23922 : List Cond := .code yJ0_checkBoundsBeginEnd_23922 cJ0_checkBoundsBeginEnd_23922 3 none :: ([.fieldLink RJ0 1053 "jdk/internal/util/Preconditions" "SIOOBE_FORMATTER" "Ljava/util/function/BiFunction;", .methodLink RJ0 1062 yJ3_checkFromToIndex_8c36e, .static yJ3_checkFromToIndex_8c36e, .initialized RJ3, .code yJ3_checkFromToIndex_8c36e cJ3_checkFromToIndex_8c36e 4 (some .int)])
def wsJ2_checkBoundsBeginEnd_d044e : List Cond := .code yJ2_checkBoundsBeginEnd_d044e cJ2_checkBoundsBeginEnd_d044e 3 none :: ([.methodLink RJ2 48 yJ2_length_9d52b, .static yJ2_length_9d52b, .initialized RJ2, .code yJ2_length_9d52b cJ2_length_9d52b 1 (some .int), .methodLink RJ2 241 yJ0_checkBoundsBeginEnd_23922, .static yJ0_checkBoundsBeginEnd_23922, .initialized RJ0, .code yJ0_checkBoundsBeginEnd_23922 cJ0_checkBoundsBeginEnd_23922 3 none, .fieldLink RJ0 1053 "jdk/internal/util/Preconditions" "SIOOBE_FORMATTER" "Ljava/util/function/BiFunction;", .methodLink RJ0 1062 yJ3_checkFromToIndex_8c36e, .static yJ3_checkFromToIndex_8c36e, .initialized RJ3, .code yJ3_checkFromToIndex_8c36e cJ3_checkFromToIndex_8c36e 4 (some .int)])
def wsJ2_getChars_ba4f3 : List Cond := .code yJ2_getChars_ba4f3 cJ2_getChars_ba4f3 7 (some .int) :: ([.fieldLink RJ2 403 "java/lang/Integer" "DigitOnes" "[B", .fieldLink RJ2 407 "java/lang/Integer" "DigitTens" "[B", .methodLink RJ2 111 yJ2_putChar_b72d1, .static yJ2_putChar_b72d1, .initialized RJ2, .code yJ2_putChar_b72d1 cJ2_putChar_b72d1 3 none, .fieldLink RJ2 44 "java/lang/StringUTF16" "$assertionsDisabled" "Z", .fieldLink RJ2 59 "java/lang/StringUTF16" "HI_BYTE_SHIFT" "I", .fieldLink RJ2 63 "java/lang/StringUTF16" "LO_BYTE_SHIFT" "I", .methodLink RJ2 48 yJ2_length_9d52b, .static yJ2_length_9d52b, .code yJ2_length_9d52b cJ2_length_9d52b 1 (some .int)])
def wsJ2_getChars_46870_r1 : List Cond := [Cond.fieldLink RJ2 44 "java/lang/StringUTF16" "$assertionsDisabled" "Z", Cond.methodLink RJ2 96 yJ2_checkBoundsBeginEnd_d044e, Cond.static yJ2_checkBoundsBeginEnd_d044e, Cond.initialized RJ2, Cond.code yJ2_checkBoundsBeginEnd_d044e cJ2_checkBoundsBeginEnd_d044e 3 none, Cond.methodLink RJ2 48 yJ2_length_9d52b, Cond.static yJ2_length_9d52b, Cond.code yJ2_length_9d52b cJ2_length_9d52b 1 (some .int), Cond.methodLink RJ2 241 yJ0_checkBoundsBeginEnd_23922, Cond.static yJ0_checkBoundsBeginEnd_23922, Cond.initialized RJ0, Cond.code yJ0_checkBoundsBeginEnd_23922 cJ0_checkBoundsBeginEnd_23922 3 none, Cond.fieldLink RJ0 1053 "jdk/internal/util/Preconditions" "SIOOBE_FORMATTER" "Ljava/util/function/BiFunction;", Cond.methodLink RJ0 1062 yJ3_checkFromToIndex_8c36e, Cond.static yJ3_checkFromToIndex_8c36e, Cond.initialized RJ3, Cond.code yJ3_checkFromToIndex_8c36e cJ3_checkFromToIndex_8c36e 4 (some .int), Cond.methodLink RJ2 393 yJ2_getChars_ba4f3, Cond.static yJ2_getChars_ba4f3, Cond.code yJ2_getChars_ba4f3 cJ2_getChars_ba4f3 7 (some .int), Cond.fieldLink RJ2 403 "java/lang/Integer" "DigitOnes" "[B", Cond.fieldLink RJ2 407 "java/lang/Integer" "DigitTens" "[B", Cond.methodLink RJ2 111 yJ2_putChar_b72d1, Cond.static yJ2_putChar_b72d1]
def wsJ2_getChars_46870_r2 : List Cond := [Cond.code yJ2_putChar_b72d1 cJ2_putChar_b72d1 3 none, Cond.fieldLink RJ2 59 "java/lang/StringUTF16" "HI_BYTE_SHIFT" "I", Cond.fieldLink RJ2 63 "java/lang/StringUTF16" "LO_BYTE_SHIFT" "I"]
def wsJ2_getChars_46870 : List Cond := .code yJ2_getChars_46870 cJ2_getChars_46870 5 (some .int) :: ((wsJ2_getChars_46870_r1 ++ wsJ2_getChars_46870_r2))
def wsJ5_append_c97b9_r1 : List Cond := [Cond.fieldLink RJ5 79 "java/lang/AbstractStringBuilder" "count" "I", Cond.fieldLink RJ5 15 "java/lang/AbstractStringBuilder" "value" "[B", Cond.methodLink RJ5 245 yJ6_stringSize_0f7a4, Cond.static yJ6_stringSize_0f7a4, Cond.initialized RJ6, Cond.code yJ6_stringSize_0f7a4 cJ6_stringSize_0f7a4 4 (some .int), Cond.methodLink RJ5 100 ⟨"java/lang/AbstractStringBuilder", "ensureCapacityInternal", "(I)V"⟩, Cond.sameMethod "java/lang/AbstractStringBuilder" "java/lang/AbstractStringBuilder" "ensureCapacityInternal" "(I)V", Cond.selects RJ4 ⟨"java/lang/AbstractStringBuilder", "ensureCapacityInternal", "(I)V"⟩ yJ5_ensureCapacityInternal_d00df, Cond.instanceMethod yJ5_ensureCapacityInternal_d00df, Cond.initialized RJ5, Cond.code yJ5_ensureCapacityInternal_d00df cJ5_ensureCapacityInternal_d00df 3 none, Cond.fieldLink RJ5 22 "java/lang/AbstractStringBuilder" "coder" "B", Cond.methodLink RJ5 104 ⟨"java/lang/AbstractStringBuilder", "newCapacity", "(I)I"⟩, Cond.sameMethod "java/lang/AbstractStringBuilder" "java/lang/AbstractStringBuilder" "newCapacity" "(I)I", Cond.selects RJ4 ⟨"java/lang/AbstractStringBuilder", "newCapacity", "(I)I"⟩ yJ5_newCapacity_0f7a4, Cond.instanceMethod yJ5_newCapacity_0f7a4, Cond.code yJ5_newCapacity_0f7a4 cJ5_newCapacity_0f7a4 6 (some .int), Cond.constant RJ5 39 (2147483647), Cond.methodLink RJ5 114 yJ8_newLength_cabcc, Cond.static yJ8_newLength_cabcc, Cond.initialized RJ8, Cond.code yJ8_newLength_cabcc cJ8_newLength_cabcc 4 (some .int), Cond.methodLink RJ8 194 Lib.Math.max.name]
def wsJ5_append_c97b9_r2 : List Cond := [Cond.static Lib.Math.max.name, Cond.initialized "java/lang/Math", Cond.code Lib.Math.max.name Lib.Math.max.code 2 (some .int), Cond.constant RJ8 200 (2147483639), Cond.methodLink RJ8 201 yJ8_hugeLength_7cf53, Cond.static yJ8_hugeLength_7cf53, Cond.code yJ8_hugeLength_7cf53 cJ8_hugeLength_7cf53 3 (some .int), Cond.methodLink RJ5 108 yJ7_copyOf_9075b, Cond.static yJ7_copyOf_9075b, Cond.initialized RJ7, Cond.code yJ7_copyOf_9075b cJ7_copyOf_9075b 3 (some (.array .byte)), Cond.methodLink RJ7 310 ⟨"[B", "clone", "()Ljava/lang/Object;"⟩, Cond.sameMethod "[B" "java/lang/Object" "clone" "()Ljava/lang/Object;", Cond.native ⟨"java/lang/Object", "clone", "()Ljava/lang/Object;"⟩, Cond.instanceMethod ⟨"java/lang/Object", "clone", "()Ljava/lang/Object;"⟩, Cond.selects "[B" ⟨"[B", "clone", "()Ljava/lang/Object;"⟩ ⟨"java/lang/Object", "clone", "()Ljava/lang/Object;"⟩, Cond.classLink RJ7 311 "[B", Cond.arrayClass .byte, Cond.methodLink RJ7 304 Lib.Math.min.name, Cond.static Lib.Math.min.name, Cond.code Lib.Math.min.name Lib.Math.min.code 2 (some .int), Cond.methodLink RJ7 150 arraycopyName, Cond.native arraycopyName, Cond.static arraycopyName]
def wsJ5_append_c97b9_r3 : List Cond := [Cond.initialized "java/lang/System", Cond.methodLink RJ5 83 ⟨"java/lang/AbstractStringBuilder", "isLatin1", "()Z"⟩, Cond.sameMethod "java/lang/AbstractStringBuilder" "java/lang/AbstractStringBuilder" "isLatin1" "()Z", Cond.selects RJ4 ⟨"java/lang/AbstractStringBuilder", "isLatin1", "()Z"⟩ yJ5_isLatin1_aae02, Cond.instanceMethod yJ5_isLatin1_aae02, Cond.code yJ5_isLatin1_aae02 cJ5_isLatin1_aae02 1 (some .boolean), Cond.fieldLink RJ5 18 "java/lang/String" "COMPACT_STRINGS" "Z", Cond.methodLink RJ5 248 yJ6_getChars_ba4f3, Cond.static yJ6_getChars_ba4f3, Cond.code yJ6_getChars_ba4f3 cJ6_getChars_ba4f3 7 (some .int), Cond.fieldLink RJ6 83 "java/lang/Integer" "DigitOnes" "[B", Cond.fieldLink RJ6 87 "java/lang/Integer" "DigitTens" "[B", Cond.methodLink RJ5 251 yJ2_getChars_46870, Cond.static yJ2_getChars_46870, Cond.initialized RJ2, Cond.code yJ2_getChars_46870 cJ2_getChars_46870 5 (some .int), Cond.fieldLink RJ2 44 "java/lang/StringUTF16" "$assertionsDisabled" "Z", Cond.methodLink RJ2 96 yJ2_checkBoundsBeginEnd_d044e, Cond.static yJ2_checkBoundsBeginEnd_d044e, Cond.code yJ2_checkBoundsBeginEnd_d044e cJ2_checkBoundsBeginEnd_d044e 3 none, Cond.methodLink RJ2 48 yJ2_length_9d52b, Cond.static yJ2_length_9d52b, Cond.code yJ2_length_9d52b cJ2_length_9d52b 1 (some .int), Cond.methodLink RJ2 241 yJ0_checkBoundsBeginEnd_23922]
def wsJ5_append_c97b9_r4 : List Cond := [Cond.static yJ0_checkBoundsBeginEnd_23922, Cond.initialized RJ0, Cond.code yJ0_checkBoundsBeginEnd_23922 cJ0_checkBoundsBeginEnd_23922 3 none, Cond.fieldLink RJ0 1053 "jdk/internal/util/Preconditions" "SIOOBE_FORMATTER" "Ljava/util/function/BiFunction;", Cond.methodLink RJ0 1062 yJ3_checkFromToIndex_8c36e, Cond.static yJ3_checkFromToIndex_8c36e, Cond.initialized RJ3, Cond.code yJ3_checkFromToIndex_8c36e cJ3_checkFromToIndex_8c36e 4 (some .int), Cond.methodLink RJ2 393 yJ2_getChars_ba4f3, Cond.static yJ2_getChars_ba4f3, Cond.code yJ2_getChars_ba4f3 cJ2_getChars_ba4f3 7 (some .int), Cond.fieldLink RJ2 403 "java/lang/Integer" "DigitOnes" "[B", Cond.fieldLink RJ2 407 "java/lang/Integer" "DigitTens" "[B", Cond.methodLink RJ2 111 yJ2_putChar_b72d1, Cond.static yJ2_putChar_b72d1, Cond.code yJ2_putChar_b72d1 cJ2_putChar_b72d1 3 none, Cond.fieldLink RJ2 59 "java/lang/StringUTF16" "HI_BYTE_SHIFT" "I", Cond.fieldLink RJ2 63 "java/lang/StringUTF16" "LO_BYTE_SHIFT" "I"]
def wsJ5_append_c97b9 : List Cond := .code yJ5_append_c97b9 cJ5_append_c97b9 4 (some (.object "java/lang/AbstractStringBuilder")) :: ((wsJ5_append_c97b9_r1 ++ (wsJ5_append_c97b9_r2 ++ (wsJ5_append_c97b9_r3 ++ wsJ5_append_c97b9_r4))) ++ wsJ40)
def wsJ4_append_bf812_r1 : List Cond := [Cond.methodLink RJ4 53 yJ5_append_c97b9, Cond.sameMethod "java/lang/AbstractStringBuilder" "java/lang/AbstractStringBuilder" "append" "(I)Ljava/lang/AbstractStringBuilder;", Cond.superclass RJ4 RJ5, Cond.instanceMethod yJ5_append_c97b9, Cond.initialized RJ5, Cond.code yJ5_append_c97b9 cJ5_append_c97b9 4 (some (.object "java/lang/AbstractStringBuilder")), Cond.fieldLink RJ5 79 "java/lang/AbstractStringBuilder" "count" "I", Cond.fieldLink RJ5 15 "java/lang/AbstractStringBuilder" "value" "[B", Cond.methodLink RJ5 245 yJ6_stringSize_0f7a4, Cond.static yJ6_stringSize_0f7a4, Cond.initialized RJ6, Cond.code yJ6_stringSize_0f7a4 cJ6_stringSize_0f7a4 4 (some .int), Cond.methodLink RJ5 100 ⟨"java/lang/AbstractStringBuilder", "ensureCapacityInternal", "(I)V"⟩, Cond.sameMethod "java/lang/AbstractStringBuilder" "java/lang/AbstractStringBuilder" "ensureCapacityInternal" "(I)V", Cond.selects RJ4 ⟨"java/lang/AbstractStringBuilder", "ensureCapacityInternal", "(I)V"⟩ yJ5_ensureCapacityInternal_d00df, Cond.instanceMethod yJ5_ensureCapacityInternal_d00df, Cond.code yJ5_ensureCapacityInternal_d00df cJ5_ensureCapacityInternal_d00df 3 none, Cond.fieldLink RJ5 22 "java/lang/AbstractStringBuilder" "coder" "B", Cond.methodLink RJ5 104 ⟨"java/lang/AbstractStringBuilder", "newCapacity", "(I)I"⟩, Cond.sameMethod "java/lang/AbstractStringBuilder" "java/lang/AbstractStringBuilder" "newCapacity" "(I)I", Cond.selects RJ4 ⟨"java/lang/AbstractStringBuilder", "newCapacity", "(I)I"⟩ yJ5_newCapacity_0f7a4, Cond.instanceMethod yJ5_newCapacity_0f7a4, Cond.code yJ5_newCapacity_0f7a4 cJ5_newCapacity_0f7a4 6 (some .int), Cond.constant RJ5 39 (2147483647)]
def wsJ4_append_bf812_r2 : List Cond := [Cond.methodLink RJ5 114 yJ8_newLength_cabcc, Cond.static yJ8_newLength_cabcc, Cond.initialized RJ8, Cond.code yJ8_newLength_cabcc cJ8_newLength_cabcc 4 (some .int), Cond.methodLink RJ8 194 Lib.Math.max.name, Cond.static Lib.Math.max.name, Cond.initialized "java/lang/Math", Cond.code Lib.Math.max.name Lib.Math.max.code 2 (some .int), Cond.constant RJ8 200 (2147483639), Cond.methodLink RJ8 201 yJ8_hugeLength_7cf53, Cond.static yJ8_hugeLength_7cf53, Cond.code yJ8_hugeLength_7cf53 cJ8_hugeLength_7cf53 3 (some .int), Cond.methodLink RJ5 108 yJ7_copyOf_9075b, Cond.static yJ7_copyOf_9075b, Cond.initialized RJ7, Cond.code yJ7_copyOf_9075b cJ7_copyOf_9075b 3 (some (.array .byte)), Cond.methodLink RJ7 310 ⟨"[B", "clone", "()Ljava/lang/Object;"⟩, Cond.sameMethod "[B" "java/lang/Object" "clone" "()Ljava/lang/Object;", Cond.native ⟨"java/lang/Object", "clone", "()Ljava/lang/Object;"⟩, Cond.instanceMethod ⟨"java/lang/Object", "clone", "()Ljava/lang/Object;"⟩, Cond.selects "[B" ⟨"[B", "clone", "()Ljava/lang/Object;"⟩ ⟨"java/lang/Object", "clone", "()Ljava/lang/Object;"⟩, Cond.classLink RJ7 311 "[B", Cond.arrayClass .byte, Cond.methodLink RJ7 304 Lib.Math.min.name]
def wsJ4_append_bf812_r3 : List Cond := [Cond.static Lib.Math.min.name, Cond.code Lib.Math.min.name Lib.Math.min.code 2 (some .int), Cond.methodLink RJ7 150 arraycopyName, Cond.native arraycopyName, Cond.static arraycopyName, Cond.initialized "java/lang/System", Cond.methodLink RJ5 83 ⟨"java/lang/AbstractStringBuilder", "isLatin1", "()Z"⟩, Cond.sameMethod "java/lang/AbstractStringBuilder" "java/lang/AbstractStringBuilder" "isLatin1" "()Z", Cond.selects RJ4 ⟨"java/lang/AbstractStringBuilder", "isLatin1", "()Z"⟩ yJ5_isLatin1_aae02, Cond.instanceMethod yJ5_isLatin1_aae02, Cond.code yJ5_isLatin1_aae02 cJ5_isLatin1_aae02 1 (some .boolean), Cond.fieldLink RJ5 18 "java/lang/String" "COMPACT_STRINGS" "Z", Cond.methodLink RJ5 248 yJ6_getChars_ba4f3, Cond.static yJ6_getChars_ba4f3, Cond.code yJ6_getChars_ba4f3 cJ6_getChars_ba4f3 7 (some .int), Cond.fieldLink RJ6 83 "java/lang/Integer" "DigitOnes" "[B", Cond.fieldLink RJ6 87 "java/lang/Integer" "DigitTens" "[B", Cond.methodLink RJ5 251 yJ2_getChars_46870, Cond.static yJ2_getChars_46870, Cond.initialized RJ2, Cond.code yJ2_getChars_46870 cJ2_getChars_46870 5 (some .int), Cond.fieldLink RJ2 44 "java/lang/StringUTF16" "$assertionsDisabled" "Z", Cond.methodLink RJ2 96 yJ2_checkBoundsBeginEnd_d044e, Cond.static yJ2_checkBoundsBeginEnd_d044e]
def wsJ4_append_bf812_r4 : List Cond := [Cond.code yJ2_checkBoundsBeginEnd_d044e cJ2_checkBoundsBeginEnd_d044e 3 none, Cond.methodLink RJ2 48 yJ2_length_9d52b, Cond.static yJ2_length_9d52b, Cond.code yJ2_length_9d52b cJ2_length_9d52b 1 (some .int), Cond.methodLink RJ2 241 yJ0_checkBoundsBeginEnd_23922, Cond.static yJ0_checkBoundsBeginEnd_23922, Cond.initialized RJ0, Cond.code yJ0_checkBoundsBeginEnd_23922 cJ0_checkBoundsBeginEnd_23922 3 none, Cond.fieldLink RJ0 1053 "jdk/internal/util/Preconditions" "SIOOBE_FORMATTER" "Ljava/util/function/BiFunction;", Cond.methodLink RJ0 1062 yJ3_checkFromToIndex_8c36e, Cond.static yJ3_checkFromToIndex_8c36e, Cond.initialized RJ3, Cond.code yJ3_checkFromToIndex_8c36e cJ3_checkFromToIndex_8c36e 4 (some .int), Cond.methodLink RJ2 393 yJ2_getChars_ba4f3, Cond.static yJ2_getChars_ba4f3, Cond.code yJ2_getChars_ba4f3 cJ2_getChars_ba4f3 7 (some .int), Cond.fieldLink RJ2 403 "java/lang/Integer" "DigitOnes" "[B", Cond.fieldLink RJ2 407 "java/lang/Integer" "DigitTens" "[B", Cond.methodLink RJ2 111 yJ2_putChar_b72d1, Cond.static yJ2_putChar_b72d1, Cond.code yJ2_putChar_b72d1 cJ2_putChar_b72d1 3 none, Cond.fieldLink RJ2 59 "java/lang/StringUTF16" "HI_BYTE_SHIFT" "I", Cond.fieldLink RJ2 63 "java/lang/StringUTF16" "LO_BYTE_SHIFT" "I"]
def wsJ4_append_bf812 : List Cond := .code yJ4_append_bf812 cJ4_append_bf812 2 (some (.object "java/lang/StringBuilder")) :: ((wsJ4_append_bf812_r1 ++ (wsJ4_append_bf812_r2 ++ (wsJ4_append_bf812_r3 ++ wsJ4_append_bf812_r4))) ++ wsJ40)
def wsX6_writeNode_r1 : List Cond := [Cond.fieldLink RX6 54 "HarnessRows" "line" "Ljava/lang/StringBuilder;", Cond.fieldLink RX6 10 "HarnessRows" "trees" "LHarnessRows$Trees;", Cond.methodLink RX6 204 yX3_cavitiesOf, Cond.instanceMethod yX3_cavitiesOf, Cond.selects RX3 yX3_cavitiesOf yX3_cavitiesOf, Cond.initialized RX3, Cond.code yX3_cavitiesOf cX3_cavitiesOf 2 (some .int), Cond.fieldLink RX3 9 "HarnessRows$Trees" "cavities" "[I", Cond.methodLink RX6 223 yJ4_append_cf468, Cond.instanceMethod yJ4_append_cf468, Cond.selects RJ4 yJ4_append_cf468 yJ4_append_cf468, Cond.initialized RJ4, Cond.code yJ4_append_cf468 cJ4_append_cf468 2 (some (.object "java/lang/StringBuilder")), Cond.methodLink RJ4 50 yJ5_append_3fe6f, Cond.sameMethod "java/lang/AbstractStringBuilder" "java/lang/AbstractStringBuilder" "append" "(C)Ljava/lang/AbstractStringBuilder;", Cond.superclass RJ4 RJ5, Cond.instanceMethod yJ5_append_3fe6f, Cond.initialized RJ5, Cond.code yJ5_append_3fe6f cJ5_append_3fe6f 2 (some (.object "java/lang/AbstractStringBuilder")), Cond.fieldLink RJ5 79 "java/lang/AbstractStringBuilder" "count" "I", Cond.fieldLink RJ5 15 "java/lang/AbstractStringBuilder" "value" "[B", Cond.methodLink RJ5 100 ⟨"java/lang/AbstractStringBuilder", "ensureCapacityInternal", "(I)V"⟩, Cond.sameMethod "java/lang/AbstractStringBuilder" "java/lang/AbstractStringBuilder" "ensureCapacityInternal" "(I)V", Cond.selects RJ4 ⟨"java/lang/AbstractStringBuilder", "ensureCapacityInternal", "(I)V"⟩ yJ5_ensureCapacityInternal_d00df]
def wsX6_writeNode_r2 : List Cond := [Cond.instanceMethod yJ5_ensureCapacityInternal_d00df, Cond.code yJ5_ensureCapacityInternal_d00df cJ5_ensureCapacityInternal_d00df 3 none, Cond.fieldLink RJ5 22 "java/lang/AbstractStringBuilder" "coder" "B", Cond.methodLink RJ5 104 ⟨"java/lang/AbstractStringBuilder", "newCapacity", "(I)I"⟩, Cond.sameMethod "java/lang/AbstractStringBuilder" "java/lang/AbstractStringBuilder" "newCapacity" "(I)I", Cond.selects RJ4 ⟨"java/lang/AbstractStringBuilder", "newCapacity", "(I)I"⟩ yJ5_newCapacity_0f7a4, Cond.instanceMethod yJ5_newCapacity_0f7a4, Cond.code yJ5_newCapacity_0f7a4 cJ5_newCapacity_0f7a4 6 (some .int), Cond.constant RJ5 39 (2147483647), Cond.methodLink RJ5 114 yJ8_newLength_cabcc, Cond.static yJ8_newLength_cabcc, Cond.initialized RJ8, Cond.code yJ8_newLength_cabcc cJ8_newLength_cabcc 4 (some .int), Cond.methodLink RJ8 194 Lib.Math.max.name, Cond.static Lib.Math.max.name, Cond.initialized "java/lang/Math", Cond.code Lib.Math.max.name Lib.Math.max.code 2 (some .int), Cond.constant RJ8 200 (2147483639), Cond.methodLink RJ8 201 yJ8_hugeLength_7cf53, Cond.static yJ8_hugeLength_7cf53, Cond.code yJ8_hugeLength_7cf53 cJ8_hugeLength_7cf53 3 (some .int), Cond.methodLink RJ5 108 yJ7_copyOf_9075b, Cond.static yJ7_copyOf_9075b, Cond.initialized RJ7]
def wsX6_writeNode_r3 : List Cond := [Cond.code yJ7_copyOf_9075b cJ7_copyOf_9075b 3 (some (.array .byte)), Cond.methodLink RJ7 310 ⟨"[B", "clone", "()Ljava/lang/Object;"⟩, Cond.sameMethod "[B" "java/lang/Object" "clone" "()Ljava/lang/Object;", Cond.native ⟨"java/lang/Object", "clone", "()Ljava/lang/Object;"⟩, Cond.instanceMethod ⟨"java/lang/Object", "clone", "()Ljava/lang/Object;"⟩, Cond.selects "[B" ⟨"[B", "clone", "()Ljava/lang/Object;"⟩ ⟨"java/lang/Object", "clone", "()Ljava/lang/Object;"⟩, Cond.classLink RJ7 311 "[B", Cond.arrayClass .byte, Cond.methodLink RJ7 304 Lib.Math.min.name, Cond.static Lib.Math.min.name, Cond.code Lib.Math.min.name Lib.Math.min.code 2 (some .int), Cond.methodLink RJ7 150 arraycopyName, Cond.native arraycopyName, Cond.static arraycopyName, Cond.initialized "java/lang/System", Cond.methodLink RJ5 83 ⟨"java/lang/AbstractStringBuilder", "isLatin1", "()Z"⟩, Cond.sameMethod "java/lang/AbstractStringBuilder" "java/lang/AbstractStringBuilder" "isLatin1" "()Z", Cond.selects RJ4 ⟨"java/lang/AbstractStringBuilder", "isLatin1", "()Z"⟩ yJ5_isLatin1_aae02, Cond.instanceMethod yJ5_isLatin1_aae02, Cond.code yJ5_isLatin1_aae02 cJ5_isLatin1_aae02 1 (some .boolean), Cond.fieldLink RJ5 18 "java/lang/String" "COMPACT_STRINGS" "Z", Cond.methodLink RJ5 191 yJ1_canEncode_fc78d, Cond.static yJ1_canEncode_fc78d, Cond.initialized RJ1]
def wsX6_writeNode_r4 : List Cond := [Cond.code yJ1_canEncode_fc78d cJ1_canEncode_fc78d 1 (some .boolean), Cond.methodLink RJ5 195 ⟨"java/lang/AbstractStringBuilder", "inflate", "()V"⟩, Cond.sameMethod "java/lang/AbstractStringBuilder" "java/lang/AbstractStringBuilder" "inflate" "()V", Cond.selects RJ4 ⟨"java/lang/AbstractStringBuilder", "inflate", "()V"⟩ yJ5_inflate_da8c8, Cond.instanceMethod yJ5_inflate_da8c8, Cond.code yJ5_inflate_da8c8 cJ5_inflate_da8c8 2 none, Cond.methodLink RJ5 26 yJ2_newBytesFor_77867, Cond.static yJ2_newBytesFor_77867, Cond.initialized RJ2, Cond.code yJ2_newBytesFor_77867 cJ2_newBytesFor_77867 1 (some (.array .byte)), Cond.methodLink RJ2 11 yJ2_newBytesLength_0f7a4, Cond.static yJ2_newBytesLength_0f7a4, Cond.code yJ2_newBytesLength_0f7a4 cJ2_newBytesLength_0f7a4 1 (some .int), Cond.constant RJ2 20 (1073741823), Cond.methodLink RJ5 125 yJ1_inflate_0e8fd, Cond.static yJ1_inflate_0e8fd, Cond.code yJ1_inflate_0e8fd cJ1_inflate_0e8fd 5 none, Cond.methodLink RJ1 240 yJ2_inflate_0e8fd, Cond.static yJ2_inflate_0e8fd, Cond.code yJ2_inflate_0e8fd cJ2_inflate_0e8fd 6 none, Cond.methodLink RJ2 173 yJ2_checkBoundsOffCount_d044e, Cond.static yJ2_checkBoundsOffCount_d044e, Cond.code yJ2_checkBoundsOffCount_d044e cJ2_checkBoundsOffCount_d044e 3 none, Cond.methodLink RJ2 48 yJ2_length_9d52b]
def wsX6_writeNode_r5 : List Cond := [Cond.static yJ2_length_9d52b, Cond.code yJ2_length_9d52b cJ2_length_9d52b 1 (some .int), Cond.methodLink RJ2 419 yJ0_checkBoundsOffCount_cabcc, Cond.static yJ0_checkBoundsOffCount_cabcc, Cond.initialized RJ0, Cond.code yJ0_checkBoundsOffCount_cabcc cJ0_checkBoundsOffCount_cabcc 3 (some .int), Cond.fieldLink RJ0 1053 "jdk/internal/util/Preconditions" "SIOOBE_FORMATTER" "Ljava/util/function/BiFunction;", Cond.methodLink RJ0 1065 yJ3_checkFromIndexSize_8c36e, Cond.static yJ3_checkFromIndexSize_8c36e, Cond.initialized RJ3, Cond.code yJ3_checkFromIndexSize_8c36e cJ3_checkFromIndexSize_8c36e 4 (some .int), Cond.methodLink RJ2 111 yJ2_putChar_b72d1, Cond.static yJ2_putChar_b72d1, Cond.code yJ2_putChar_b72d1 cJ2_putChar_b72d1 3 none, Cond.fieldLink RJ2 44 "java/lang/StringUTF16" "$assertionsDisabled" "Z", Cond.fieldLink RJ2 59 "java/lang/StringUTF16" "HI_BYTE_SHIFT" "I", Cond.fieldLink RJ2 63 "java/lang/StringUTF16" "LO_BYTE_SHIFT" "I", Cond.methodLink RJ5 197 yJ2_putCharSB_b72d1, Cond.static yJ2_putCharSB_b72d1, Cond.code yJ2_putCharSB_b72d1 cJ2_putCharSB_b72d1 3 none, Cond.methodLink RJ2 67 yJ2_checkIndex_2214a, Cond.static yJ2_checkIndex_2214a, Cond.code yJ2_checkIndex_2214a cJ2_checkIndex_2214a 2 none, Cond.methodLink RJ2 414 yJ0_checkIndex_df160]
def wsX6_writeNode_r6 : List Cond := [Cond.static yJ0_checkIndex_df160, Cond.code yJ0_checkIndex_df160 cJ0_checkIndex_df160 2 none, Cond.methodLink RJ0 1059 yJ3_checkIndex_8e157, Cond.static yJ3_checkIndex_8e157, Cond.code yJ3_checkIndex_8e157 cJ3_checkIndex_8e157 3 (some .int), Cond.methodLink RX6 233 yJ4_append_bf812, Cond.instanceMethod yJ4_append_bf812, Cond.selects RJ4 yJ4_append_bf812 yJ4_append_bf812, Cond.code yJ4_append_bf812 cJ4_append_bf812 2 (some (.object "java/lang/StringBuilder")), Cond.methodLink RJ4 53 yJ5_append_c97b9, Cond.sameMethod "java/lang/AbstractStringBuilder" "java/lang/AbstractStringBuilder" "append" "(I)Ljava/lang/AbstractStringBuilder;", Cond.instanceMethod yJ5_append_c97b9, Cond.code yJ5_append_c97b9 cJ5_append_c97b9 4 (some (.object "java/lang/AbstractStringBuilder")), Cond.methodLink RJ5 245 yJ6_stringSize_0f7a4, Cond.static yJ6_stringSize_0f7a4, Cond.initialized RJ6, Cond.code yJ6_stringSize_0f7a4 cJ6_stringSize_0f7a4 4 (some .int), Cond.methodLink RJ5 248 yJ6_getChars_ba4f3, Cond.static yJ6_getChars_ba4f3, Cond.code yJ6_getChars_ba4f3 cJ6_getChars_ba4f3 7 (some .int), Cond.fieldLink RJ6 83 "java/lang/Integer" "DigitOnes" "[B", Cond.fieldLink RJ6 87 "java/lang/Integer" "DigitTens" "[B", Cond.methodLink RJ5 251 yJ2_getChars_46870, Cond.static yJ2_getChars_46870]
def wsX6_writeNode_r7 : List Cond := [Cond.code yJ2_getChars_46870 cJ2_getChars_46870 5 (some .int), Cond.methodLink RJ2 96 yJ2_checkBoundsBeginEnd_d044e, Cond.static yJ2_checkBoundsBeginEnd_d044e, Cond.code yJ2_checkBoundsBeginEnd_d044e cJ2_checkBoundsBeginEnd_d044e 3 none, Cond.methodLink RJ2 241 yJ0_checkBoundsBeginEnd_23922, Cond.static yJ0_checkBoundsBeginEnd_23922, Cond.code yJ0_checkBoundsBeginEnd_23922 cJ0_checkBoundsBeginEnd_23922 3 none, Cond.methodLink RJ0 1062 yJ3_checkFromToIndex_8c36e, Cond.static yJ3_checkFromToIndex_8c36e, Cond.code yJ3_checkFromToIndex_8c36e cJ3_checkFromToIndex_8c36e 4 (some .int), Cond.methodLink RJ2 393 yJ2_getChars_ba4f3, Cond.static yJ2_getChars_ba4f3, Cond.code yJ2_getChars_ba4f3 cJ2_getChars_ba4f3 7 (some .int), Cond.fieldLink RJ2 403 "java/lang/Integer" "DigitOnes" "[B", Cond.fieldLink RJ2 407 "java/lang/Integer" "DigitTens" "[B"]
def wsX6_writeNode : List Cond := .code yX6_writeNode cX6_writeNode 2 none :: ((wsX6_writeNode_r1 ++ (wsX6_writeNode_r2 ++ (wsX6_writeNode_r3 ++ (wsX6_writeNode_r4 ++ (wsX6_writeNode_r5 ++ (wsX6_writeNode_r6 ++ wsX6_writeNode_r7)))))) ++ wsX60 ++ wsX30 ++ wsJ40 ++ (vx_atM "java/lang/ArrayIndexOutOfBoundsException" ["java/lang/IndexOutOfBoundsException", "java/lang/RuntimeException", "java/lang/Exception"]).filter goodWord)
def wsX6_writeBundle_r1 : List Cond := [Cond.fieldLink RX6 54 "HarnessRows" "line" "Ljava/lang/StringBuilder;", Cond.fieldLink RX6 10 "HarnessRows" "trees" "LHarnessRows$Trees;", Cond.methodLink RX6 214 yJ4_setLength_d00df, Cond.instanceMethod yJ4_setLength_d00df, Cond.selects RJ4 yJ4_setLength_d00df yJ4_setLength_d00df, Cond.initialized RJ4, Cond.code yJ4_setLength_d00df cJ4_setLength_d00df 2 none, Cond.methodLink RJ4 333 yJ5_setLength_d00df, Cond.sameMethod "java/lang/AbstractStringBuilder" "java/lang/AbstractStringBuilder" "setLength" "(I)V", Cond.superclass RJ4 RJ5, Cond.instanceMethod yJ5_setLength_d00df, Cond.initialized RJ5, Cond.code yJ5_setLength_d00df cJ5_setLength_d00df 2 none, Cond.classLink RJ5 129 RJx7c733, Cond.instantiable RJx7c733 6, Cond.initialized RJx7c733, Cond.fieldLink RJ5 79 "java/lang/AbstractStringBuilder" "count" "I", Cond.fieldLink RJ5 15 "java/lang/AbstractStringBuilder" "value" "[B", Cond.fieldLink RJ5 73 "java/lang/AbstractStringBuilder" "maybeLatin1" "Z", Cond.methodLink RJ5 100 ⟨"java/lang/AbstractStringBuilder", "ensureCapacityInternal", "(I)V"⟩, Cond.sameMethod "java/lang/AbstractStringBuilder" "java/lang/AbstractStringBuilder" "ensureCapacityInternal" "(I)V", Cond.selects RJ4 ⟨"java/lang/AbstractStringBuilder", "ensureCapacityInternal", "(I)V"⟩ yJ5_ensureCapacityInternal_d00df, Cond.instanceMethod yJ5_ensureCapacityInternal_d00df, Cond.code yJ5_ensureCapacityInternal_d00df cJ5_ensureCapacityInternal_d00df 3 none]
def wsX6_writeBundle_r2 : List Cond := [Cond.fieldLink RJ5 22 "java/lang/AbstractStringBuilder" "coder" "B", Cond.methodLink RJ5 104 ⟨"java/lang/AbstractStringBuilder", "newCapacity", "(I)I"⟩, Cond.sameMethod "java/lang/AbstractStringBuilder" "java/lang/AbstractStringBuilder" "newCapacity" "(I)I", Cond.selects RJ4 ⟨"java/lang/AbstractStringBuilder", "newCapacity", "(I)I"⟩ yJ5_newCapacity_0f7a4, Cond.instanceMethod yJ5_newCapacity_0f7a4, Cond.code yJ5_newCapacity_0f7a4 cJ5_newCapacity_0f7a4 6 (some .int), Cond.constant RJ5 39 (2147483647), Cond.methodLink RJ5 114 yJ8_newLength_cabcc, Cond.static yJ8_newLength_cabcc, Cond.initialized RJ8, Cond.code yJ8_newLength_cabcc cJ8_newLength_cabcc 4 (some .int), Cond.methodLink RJ8 194 Lib.Math.max.name, Cond.static Lib.Math.max.name, Cond.initialized "java/lang/Math", Cond.code Lib.Math.max.name Lib.Math.max.code 2 (some .int), Cond.constant RJ8 200 (2147483639), Cond.methodLink RJ8 201 yJ8_hugeLength_7cf53, Cond.static yJ8_hugeLength_7cf53, Cond.code yJ8_hugeLength_7cf53 cJ8_hugeLength_7cf53 3 (some .int), Cond.methodLink RJ5 108 yJ7_copyOf_9075b, Cond.static yJ7_copyOf_9075b, Cond.initialized RJ7, Cond.code yJ7_copyOf_9075b cJ7_copyOf_9075b 3 (some (.array .byte)), Cond.methodLink RJ7 310 ⟨"[B", "clone", "()Ljava/lang/Object;"⟩]
def wsX6_writeBundle_r3 : List Cond := [Cond.sameMethod "[B" "java/lang/Object" "clone" "()Ljava/lang/Object;", Cond.native ⟨"java/lang/Object", "clone", "()Ljava/lang/Object;"⟩, Cond.instanceMethod ⟨"java/lang/Object", "clone", "()Ljava/lang/Object;"⟩, Cond.selects "[B" ⟨"[B", "clone", "()Ljava/lang/Object;"⟩ ⟨"java/lang/Object", "clone", "()Ljava/lang/Object;"⟩, Cond.classLink RJ7 311 "[B", Cond.arrayClass .byte, Cond.methodLink RJ7 304 Lib.Math.min.name, Cond.static Lib.Math.min.name, Cond.code Lib.Math.min.name Lib.Math.min.code 2 (some .int), Cond.methodLink RJ7 150 arraycopyName, Cond.native arraycopyName, Cond.static arraycopyName, Cond.initialized "java/lang/System", Cond.methodLink RJ5 83 ⟨"java/lang/AbstractStringBuilder", "isLatin1", "()Z"⟩, Cond.sameMethod "java/lang/AbstractStringBuilder" "java/lang/AbstractStringBuilder" "isLatin1" "()Z", Cond.selects RJ4 ⟨"java/lang/AbstractStringBuilder", "isLatin1", "()Z"⟩ yJ5_isLatin1_aae02, Cond.instanceMethod yJ5_isLatin1_aae02, Cond.code yJ5_isLatin1_aae02 cJ5_isLatin1_aae02 1 (some .boolean), Cond.fieldLink RJ5 18 "java/lang/String" "COMPACT_STRINGS" "Z", Cond.methodLink RJ5 133 yJ1_fillNull_b72d1, Cond.static yJ1_fillNull_b72d1, Cond.initialized RJ1, Cond.code yJ1_fillNull_b72d1 cJ1_fillNull_b72d1 3 none, Cond.methodLink RJ1 236 yJ7_fill_eb02e]
def wsX6_writeBundle_r4 : List Cond := [Cond.static yJ7_fill_eb02e, Cond.code yJ7_fill_eb02e cJ7_fill_eb02e 5 none, Cond.methodLink RJ7 13 yJ7_rangeCheck_23922, Cond.static yJ7_rangeCheck_23922, Cond.code yJ7_rangeCheck_23922 cJ7_rangeCheck_23922 3 none, Cond.classLink RJ7 45 RJ4, Cond.instantiable RJ4 4, Cond.classLink RJ7 68 RJx00060, Cond.instantiable RJx00060 6, Cond.initialized RJx00060, Cond.methodLink RJ5 137 yJ2_fillNull_b72d1, Cond.static yJ2_fillNull_b72d1, Cond.initialized RJ2, Cond.code yJ2_fillNull_b72d1 cJ2_fillNull_b72d1 3 none, Cond.methodLink RJ2 380 yJ7_fill_eb02e, Cond.methodLink RX6 217 yX3_firstNode, Cond.instanceMethod yX3_firstNode, Cond.selects RX3 yX3_firstNode yX3_firstNode, Cond.initialized RX3, Cond.code yX3_firstNode cX3_firstNode 2 (some .int), Cond.fieldLink RX3 15 "HarnessRows$Trees" "firstNodes" "[I", Cond.methodLink RX6 220 yX6_writeNode, Cond.instanceMethod yX6_writeNode, Cond.selects RX6 yX6_writeNode yX6_writeNode]
def wsX6_writeBundle_r5 : List Cond := [Cond.initialized RX6, Cond.code yX6_writeNode cX6_writeNode 2 none, Cond.methodLink RX6 204 yX3_cavitiesOf, Cond.instanceMethod yX3_cavitiesOf, Cond.selects RX3 yX3_cavitiesOf yX3_cavitiesOf, Cond.code yX3_cavitiesOf cX3_cavitiesOf 2 (some .int), Cond.fieldLink RX3 9 "HarnessRows$Trees" "cavities" "[I", Cond.methodLink RX6 223 yJ4_append_cf468, Cond.instanceMethod yJ4_append_cf468, Cond.selects RJ4 yJ4_append_cf468 yJ4_append_cf468, Cond.code yJ4_append_cf468 cJ4_append_cf468 2 (some (.object "java/lang/StringBuilder")), Cond.methodLink RJ4 50 yJ5_append_3fe6f, Cond.sameMethod "java/lang/AbstractStringBuilder" "java/lang/AbstractStringBuilder" "append" "(C)Ljava/lang/AbstractStringBuilder;", Cond.instanceMethod yJ5_append_3fe6f, Cond.code yJ5_append_3fe6f cJ5_append_3fe6f 2 (some (.object "java/lang/AbstractStringBuilder")), Cond.methodLink RJ5 191 yJ1_canEncode_fc78d, Cond.static yJ1_canEncode_fc78d, Cond.code yJ1_canEncode_fc78d cJ1_canEncode_fc78d 1 (some .boolean), Cond.methodLink RJ5 195 ⟨"java/lang/AbstractStringBuilder", "inflate", "()V"⟩, Cond.sameMethod "java/lang/AbstractStringBuilder" "java/lang/AbstractStringBuilder" "inflate" "()V", Cond.selects RJ4 ⟨"java/lang/AbstractStringBuilder", "inflate", "()V"⟩ yJ5_inflate_da8c8, Cond.instanceMethod yJ5_inflate_da8c8, Cond.code yJ5_inflate_da8c8 cJ5_inflate_da8c8 2 none, Cond.methodLink RJ5 26 yJ2_newBytesFor_77867]
def wsX6_writeBundle_r6 : List Cond := [Cond.static yJ2_newBytesFor_77867, Cond.code yJ2_newBytesFor_77867 cJ2_newBytesFor_77867 1 (some (.array .byte)), Cond.methodLink RJ2 11 yJ2_newBytesLength_0f7a4, Cond.static yJ2_newBytesLength_0f7a4, Cond.code yJ2_newBytesLength_0f7a4 cJ2_newBytesLength_0f7a4 1 (some .int), Cond.constant RJ2 20 (1073741823), Cond.methodLink RJ5 125 yJ1_inflate_0e8fd, Cond.static yJ1_inflate_0e8fd, Cond.code yJ1_inflate_0e8fd cJ1_inflate_0e8fd 5 none, Cond.methodLink RJ1 240 yJ2_inflate_0e8fd, Cond.static yJ2_inflate_0e8fd, Cond.code yJ2_inflate_0e8fd cJ2_inflate_0e8fd 6 none, Cond.methodLink RJ2 173 yJ2_checkBoundsOffCount_d044e, Cond.static yJ2_checkBoundsOffCount_d044e, Cond.code yJ2_checkBoundsOffCount_d044e cJ2_checkBoundsOffCount_d044e 3 none, Cond.methodLink RJ2 48 yJ2_length_9d52b, Cond.static yJ2_length_9d52b, Cond.code yJ2_length_9d52b cJ2_length_9d52b 1 (some .int), Cond.methodLink RJ2 419 yJ0_checkBoundsOffCount_cabcc, Cond.static yJ0_checkBoundsOffCount_cabcc, Cond.initialized RJ0, Cond.code yJ0_checkBoundsOffCount_cabcc cJ0_checkBoundsOffCount_cabcc 3 (some .int), Cond.fieldLink RJ0 1053 "jdk/internal/util/Preconditions" "SIOOBE_FORMATTER" "Ljava/util/function/BiFunction;", Cond.methodLink RJ0 1065 yJ3_checkFromIndexSize_8c36e]
def wsX6_writeBundle_r7 : List Cond := [Cond.static yJ3_checkFromIndexSize_8c36e, Cond.initialized RJ3, Cond.code yJ3_checkFromIndexSize_8c36e cJ3_checkFromIndexSize_8c36e 4 (some .int), Cond.methodLink RJ2 111 yJ2_putChar_b72d1, Cond.static yJ2_putChar_b72d1, Cond.code yJ2_putChar_b72d1 cJ2_putChar_b72d1 3 none, Cond.fieldLink RJ2 44 "java/lang/StringUTF16" "$assertionsDisabled" "Z", Cond.fieldLink RJ2 59 "java/lang/StringUTF16" "HI_BYTE_SHIFT" "I", Cond.fieldLink RJ2 63 "java/lang/StringUTF16" "LO_BYTE_SHIFT" "I", Cond.methodLink RJ5 197 yJ2_putCharSB_b72d1, Cond.static yJ2_putCharSB_b72d1, Cond.code yJ2_putCharSB_b72d1 cJ2_putCharSB_b72d1 3 none, Cond.methodLink RJ2 67 yJ2_checkIndex_2214a, Cond.static yJ2_checkIndex_2214a, Cond.code yJ2_checkIndex_2214a cJ2_checkIndex_2214a 2 none, Cond.methodLink RJ2 414 yJ0_checkIndex_df160, Cond.static yJ0_checkIndex_df160, Cond.code yJ0_checkIndex_df160 cJ0_checkIndex_df160 2 none, Cond.methodLink RJ0 1059 yJ3_checkIndex_8e157, Cond.static yJ3_checkIndex_8e157, Cond.code yJ3_checkIndex_8e157 cJ3_checkIndex_8e157 3 (some .int), Cond.methodLink RX6 233 yJ4_append_bf812, Cond.instanceMethod yJ4_append_bf812, Cond.selects RJ4 yJ4_append_bf812 yJ4_append_bf812]
def wsX6_writeBundle_r8 : List Cond := [Cond.code yJ4_append_bf812 cJ4_append_bf812 2 (some (.object "java/lang/StringBuilder")), Cond.methodLink RJ4 53 yJ5_append_c97b9, Cond.sameMethod "java/lang/AbstractStringBuilder" "java/lang/AbstractStringBuilder" "append" "(I)Ljava/lang/AbstractStringBuilder;", Cond.instanceMethod yJ5_append_c97b9, Cond.code yJ5_append_c97b9 cJ5_append_c97b9 4 (some (.object "java/lang/AbstractStringBuilder")), Cond.methodLink RJ5 245 yJ6_stringSize_0f7a4, Cond.static yJ6_stringSize_0f7a4, Cond.initialized RJ6, Cond.code yJ6_stringSize_0f7a4 cJ6_stringSize_0f7a4 4 (some .int), Cond.methodLink RJ5 248 yJ6_getChars_ba4f3, Cond.static yJ6_getChars_ba4f3, Cond.code yJ6_getChars_ba4f3 cJ6_getChars_ba4f3 7 (some .int), Cond.fieldLink RJ6 83 "java/lang/Integer" "DigitOnes" "[B", Cond.fieldLink RJ6 87 "java/lang/Integer" "DigitTens" "[B", Cond.methodLink RJ5 251 yJ2_getChars_46870, Cond.static yJ2_getChars_46870, Cond.code yJ2_getChars_46870 cJ2_getChars_46870 5 (some .int), Cond.methodLink RJ2 96 yJ2_checkBoundsBeginEnd_d044e, Cond.static yJ2_checkBoundsBeginEnd_d044e, Cond.code yJ2_checkBoundsBeginEnd_d044e cJ2_checkBoundsBeginEnd_d044e 3 none, Cond.methodLink RJ2 241 yJ0_checkBoundsBeginEnd_23922, Cond.static yJ0_checkBoundsBeginEnd_23922, Cond.code yJ0_checkBoundsBeginEnd_23922 cJ0_checkBoundsBeginEnd_23922 3 none, Cond.methodLink RJ0 1062 yJ3_checkFromToIndex_8c36e]
def wsX6_writeBundle_r9 : List Cond := [Cond.static yJ3_checkFromToIndex_8c36e, Cond.code yJ3_checkFromToIndex_8c36e cJ3_checkFromToIndex_8c36e 4 (some .int), Cond.methodLink RJ2 393 yJ2_getChars_ba4f3, Cond.static yJ2_getChars_ba4f3, Cond.code yJ2_getChars_ba4f3 cJ2_getChars_ba4f3 7 (some .int), Cond.fieldLink RJ2 403 "java/lang/Integer" "DigitOnes" "[B", Cond.fieldLink RJ2 407 "java/lang/Integer" "DigitTens" "[B", Cond.methodLink RX6 227 yX3_otherNode, Cond.instanceMethod yX3_otherNode, Cond.selects RX3 yX3_otherNode yX3_otherNode, Cond.code yX3_otherNode cX3_otherNode 2 (some .int), Cond.fieldLink RX3 18 "HarnessRows$Trees" "otherNodes" "[I", Cond.methodLink RX6 230 yX3_bundleLength, Cond.instanceMethod yX3_bundleLength, Cond.selects RX3 yX3_bundleLength yX3_bundleLength, Cond.code yX3_bundleLength cX3_bundleLength 2 (some .int), Cond.fieldLink RX3 21 "HarnessRows$Trees" "lengths" "[I"]
def wsX6_writeBundle : List Cond := .code yX6_writeBundle cX6_writeBundle 2 none :: ((wsX6_writeBundle_r1 ++ (wsX6_writeBundle_r2 ++ (wsX6_writeBundle_r3 ++ (wsX6_writeBundle_r4 ++ (wsX6_writeBundle_r5 ++ (wsX6_writeBundle_r6 ++ (wsX6_writeBundle_r7 ++ (wsX6_writeBundle_r8 ++ wsX6_writeBundle_r9)))))))) ++ wsX60 ++ wsJx7c7330 ++ wsJ40 ++ wsJx000600 ++ wsX30 ++ (vx_atM "java/lang/ArrayIndexOutOfBoundsException" ["java/lang/IndexOutOfBoundsException", "java/lang/RuntimeException", "java/lang/Exception"]).filter goodWord)
def wsJ5_length_8abf5 : List Cond := .code yJ5_length_8abf5 cJ5_length_8abf5 1 (some .int) :: ([.fieldLink RJ5 79 "java/lang/AbstractStringBuilder" "count" "I"] ++ wsJ40)
def wsJ4_length_8abf5 : List Cond := .code yJ4_length_8abf5 cJ4_length_8abf5 1 (some .int) :: ([.methodLink RJ4 343 yJ5_length_8abf5, .sameMethod "java/lang/AbstractStringBuilder" "java/lang/AbstractStringBuilder" "length" "()I", .superclass RJ4 RJ5, .instanceMethod yJ5_length_8abf5, .initialized RJ5, .code yJ5_length_8abf5 cJ5_length_8abf5 1 (some .int), .fieldLink RJ5 79 "java/lang/AbstractStringBuilder" "count" "I"] ++ wsJ40)
def wsJ2_getChar_3b067 : List Cond := .code yJ2_getChar_3b067 cJ2_getChar_3b067 2 (some .char) :: ([.fieldLink RJ2 44 "java/lang/StringUTF16" "$assertionsDisabled" "Z", .fieldLink RJ2 59 "java/lang/StringUTF16" "HI_BYTE_SHIFT" "I", .fieldLink RJ2 63 "java/lang/StringUTF16" "LO_BYTE_SHIFT" "I", .methodLink RJ2 48 yJ2_length_9d52b, .static yJ2_length_9d52b, .initialized RJ2, .code yJ2_length_9d52b cJ2_length_9d52b 1 (some .int)])
def wsJ5_charAt_5068e_r1 : List Cond := [Cond.fieldLink RJ5 22 "java/lang/AbstractStringBuilder" "coder" "B", Cond.fieldLink RJ5 15 "java/lang/AbstractStringBuilder" "value" "[B", Cond.fieldLink RJ5 79 "java/lang/AbstractStringBuilder" "count" "I", Cond.methodLink RJ5 138 Lib.Math.min.name, Cond.static Lib.Math.min.name, Cond.initialized "java/lang/Math", Cond.code Lib.Math.min.name Lib.Math.min.code 2 (some .int), Cond.methodLink RJ5 144 yJ0_checkIndex_df160, Cond.static yJ0_checkIndex_df160, Cond.initialized RJ0, Cond.code yJ0_checkIndex_df160 cJ0_checkIndex_df160 2 none, Cond.fieldLink RJ0 1053 "jdk/internal/util/Preconditions" "SIOOBE_FORMATTER" "Ljava/util/function/BiFunction;", Cond.methodLink RJ0 1059 yJ3_checkIndex_8e157, Cond.static yJ3_checkIndex_8e157, Cond.initialized RJ3, Cond.code yJ3_checkIndex_8e157 cJ3_checkIndex_8e157 3 (some .int), Cond.methodLink RJ5 148 yJ2_getChar_3b067, Cond.static yJ2_getChar_3b067, Cond.initialized RJ2, Cond.code yJ2_getChar_3b067 cJ2_getChar_3b067 2 (some .char), Cond.fieldLink RJ2 44 "java/lang/StringUTF16" "$assertionsDisabled" "Z", Cond.fieldLink RJ2 59 "java/lang/StringUTF16" "HI_BYTE_SHIFT" "I", Cond.fieldLink RJ2 63 "java/lang/StringUTF16" "LO_BYTE_SHIFT" "I", Cond.methodLink RJ2 48 yJ2_length_9d52b]
def wsJ5_charAt_5068e_r2 : List Cond := [Cond.static yJ2_length_9d52b, Cond.code yJ2_length_9d52b cJ2_length_9d52b 1 (some .int)]
def wsJ5_charAt_5068e : List Cond := .code yJ5_charAt_5068e cJ5_charAt_5068e 5 (some .char) :: ((wsJ5_charAt_5068e_r1 ++ wsJ5_charAt_5068e_r2) ++ wsJ40)
def wsJ4_charAt_5068e_r1 : List Cond := [Cond.methodLink RJ4 329 yJ5_charAt_5068e, Cond.sameMethod "java/lang/AbstractStringBuilder" "java/lang/AbstractStringBuilder" "charAt" "(I)C", Cond.superclass RJ4 RJ5, Cond.instanceMethod yJ5_charAt_5068e, Cond.initialized RJ5, Cond.code yJ5_charAt_5068e cJ5_charAt_5068e 5 (some .char), Cond.fieldLink RJ5 22 "java/lang/AbstractStringBuilder" "coder" "B", Cond.fieldLink RJ5 15 "java/lang/AbstractStringBuilder" "value" "[B", Cond.fieldLink RJ5 79 "java/lang/AbstractStringBuilder" "count" "I", Cond.methodLink RJ5 138 Lib.Math.min.name, Cond.static Lib.Math.min.name, Cond.initialized "java/lang/Math", Cond.code Lib.Math.min.name Lib.Math.min.code 2 (some .int), Cond.methodLink RJ5 144 yJ0_checkIndex_df160, Cond.static yJ0_checkIndex_df160, Cond.initialized RJ0, Cond.code yJ0_checkIndex_df160 cJ0_checkIndex_df160 2 none, Cond.fieldLink RJ0 1053 "jdk/internal/util/Preconditions" "SIOOBE_FORMATTER" "Ljava/util/function/BiFunction;", Cond.methodLink RJ0 1059 yJ3_checkIndex_8e157, Cond.static yJ3_checkIndex_8e157, Cond.initialized RJ3, Cond.code yJ3_checkIndex_8e157 cJ3_checkIndex_8e157 3 (some .int), Cond.methodLink RJ5 148 yJ2_getChar_3b067, Cond.static yJ2_getChar_3b067]
def wsJ4_charAt_5068e_r2 : List Cond := [Cond.initialized RJ2, Cond.code yJ2_getChar_3b067 cJ2_getChar_3b067 2 (some .char), Cond.fieldLink RJ2 44 "java/lang/StringUTF16" "$assertionsDisabled" "Z", Cond.fieldLink RJ2 59 "java/lang/StringUTF16" "HI_BYTE_SHIFT" "I", Cond.fieldLink RJ2 63 "java/lang/StringUTF16" "LO_BYTE_SHIFT" "I", Cond.methodLink RJ2 48 yJ2_length_9d52b, Cond.static yJ2_length_9d52b, Cond.code yJ2_length_9d52b cJ2_length_9d52b 1 (some .int)]
def wsJ4_charAt_5068e : List Cond := .code yJ4_charAt_5068e cJ4_charAt_5068e 2 (some .char) :: ((wsJ4_charAt_5068e_r1 ++ wsJ4_charAt_5068e_r2) ++ wsJ40)
def wsX6_command_r1 : List Cond := [Cond.fieldLink RX6 10 "HarnessRows" "trees" "LHarnessRows$Trees;", Cond.fieldLink RX6 54 "HarnessRows" "line" "Ljava/lang/StringBuilder;", Cond.methodLink RX6 173 yX3_bundleCount, Cond.instanceMethod yX3_bundleCount, Cond.selects RX3 yX3_bundleCount yX3_bundleCount, Cond.initialized RX3, Cond.code yX3_bundleCount cX3_bundleCount 1 (some .int), Cond.fieldLink RX3 32 "HarnessRows$Trees" "bundles" "I", Cond.methodLink RX6 79 yX6_checkIndex, Cond.static yX6_checkIndex, Cond.initialized RX6, Cond.code yX6_checkIndex cX6_checkIndex 2 none, Cond.classLink RX6 190 "java/lang/IndexOutOfBoundsException", Cond.initialized "java/lang/IndexOutOfBoundsException", Cond.methodLink RX6 176 yX6_checkNotBelowZero, Cond.static yX6_checkNotBelowZero, Cond.code yX6_checkNotBelowZero cX6_checkNotBelowZero 1 none, Cond.methodLink RX6 180 yX6_writeBundle, Cond.instanceMethod yX6_writeBundle, Cond.selects RX6 yX6_writeBundle yX6_writeBundle, Cond.code yX6_writeBundle cX6_writeBundle 2 none, Cond.methodLink RX6 214 yJ4_setLength_d00df, Cond.instanceMethod yJ4_setLength_d00df, Cond.selects RJ4 yJ4_setLength_d00df yJ4_setLength_d00df]
def wsX6_command_r2 : List Cond := [Cond.initialized RJ4, Cond.code yJ4_setLength_d00df cJ4_setLength_d00df 2 none, Cond.methodLink RJ4 333 yJ5_setLength_d00df, Cond.sameMethod "java/lang/AbstractStringBuilder" "java/lang/AbstractStringBuilder" "setLength" "(I)V", Cond.superclass RJ4 RJ5, Cond.instanceMethod yJ5_setLength_d00df, Cond.initialized RJ5, Cond.code yJ5_setLength_d00df cJ5_setLength_d00df 2 none, Cond.classLink RJ5 129 RJx7c733, Cond.instantiable RJx7c733 6, Cond.initialized RJx7c733, Cond.fieldLink RJ5 79 "java/lang/AbstractStringBuilder" "count" "I", Cond.fieldLink RJ5 15 "java/lang/AbstractStringBuilder" "value" "[B", Cond.fieldLink RJ5 73 "java/lang/AbstractStringBuilder" "maybeLatin1" "Z", Cond.methodLink RJ5 100 ⟨"java/lang/AbstractStringBuilder", "ensureCapacityInternal", "(I)V"⟩, Cond.sameMethod "java/lang/AbstractStringBuilder" "java/lang/AbstractStringBuilder" "ensureCapacityInternal" "(I)V", Cond.selects RJ4 ⟨"java/lang/AbstractStringBuilder", "ensureCapacityInternal", "(I)V"⟩ yJ5_ensureCapacityInternal_d00df, Cond.instanceMethod yJ5_ensureCapacityInternal_d00df, Cond.code yJ5_ensureCapacityInternal_d00df cJ5_ensureCapacityInternal_d00df 3 none, Cond.fieldLink RJ5 22 "java/lang/AbstractStringBuilder" "coder" "B", Cond.methodLink RJ5 104 ⟨"java/lang/AbstractStringBuilder", "newCapacity", "(I)I"⟩, Cond.sameMethod "java/lang/AbstractStringBuilder" "java/lang/AbstractStringBuilder" "newCapacity" "(I)I", Cond.selects RJ4 ⟨"java/lang/AbstractStringBuilder", "newCapacity", "(I)I"⟩ yJ5_newCapacity_0f7a4, Cond.instanceMethod yJ5_newCapacity_0f7a4]
def wsX6_command_r3 : List Cond := [Cond.code yJ5_newCapacity_0f7a4 cJ5_newCapacity_0f7a4 6 (some .int), Cond.constant RJ5 39 (2147483647), Cond.methodLink RJ5 114 yJ8_newLength_cabcc, Cond.static yJ8_newLength_cabcc, Cond.initialized RJ8, Cond.code yJ8_newLength_cabcc cJ8_newLength_cabcc 4 (some .int), Cond.methodLink RJ8 194 Lib.Math.max.name, Cond.static Lib.Math.max.name, Cond.initialized "java/lang/Math", Cond.code Lib.Math.max.name Lib.Math.max.code 2 (some .int), Cond.constant RJ8 200 (2147483639), Cond.methodLink RJ8 201 yJ8_hugeLength_7cf53, Cond.static yJ8_hugeLength_7cf53, Cond.code yJ8_hugeLength_7cf53 cJ8_hugeLength_7cf53 3 (some .int), Cond.methodLink RJ5 108 yJ7_copyOf_9075b, Cond.static yJ7_copyOf_9075b, Cond.initialized RJ7, Cond.code yJ7_copyOf_9075b cJ7_copyOf_9075b 3 (some (.array .byte)), Cond.methodLink RJ7 310 ⟨"[B", "clone", "()Ljava/lang/Object;"⟩, Cond.sameMethod "[B" "java/lang/Object" "clone" "()Ljava/lang/Object;", Cond.native ⟨"java/lang/Object", "clone", "()Ljava/lang/Object;"⟩, Cond.instanceMethod ⟨"java/lang/Object", "clone", "()Ljava/lang/Object;"⟩, Cond.selects "[B" ⟨"[B", "clone", "()Ljava/lang/Object;"⟩ ⟨"java/lang/Object", "clone", "()Ljava/lang/Object;"⟩, Cond.classLink RJ7 311 "[B"]
def wsX6_command_r4 : List Cond := [Cond.arrayClass .byte, Cond.methodLink RJ7 304 Lib.Math.min.name, Cond.static Lib.Math.min.name, Cond.code Lib.Math.min.name Lib.Math.min.code 2 (some .int), Cond.methodLink RJ7 150 arraycopyName, Cond.native arraycopyName, Cond.static arraycopyName, Cond.initialized "java/lang/System", Cond.methodLink RJ5 83 ⟨"java/lang/AbstractStringBuilder", "isLatin1", "()Z"⟩, Cond.sameMethod "java/lang/AbstractStringBuilder" "java/lang/AbstractStringBuilder" "isLatin1" "()Z", Cond.selects RJ4 ⟨"java/lang/AbstractStringBuilder", "isLatin1", "()Z"⟩ yJ5_isLatin1_aae02, Cond.instanceMethod yJ5_isLatin1_aae02, Cond.code yJ5_isLatin1_aae02 cJ5_isLatin1_aae02 1 (some .boolean), Cond.fieldLink RJ5 18 "java/lang/String" "COMPACT_STRINGS" "Z", Cond.methodLink RJ5 133 yJ1_fillNull_b72d1, Cond.static yJ1_fillNull_b72d1, Cond.initialized RJ1, Cond.code yJ1_fillNull_b72d1 cJ1_fillNull_b72d1 3 none, Cond.methodLink RJ1 236 yJ7_fill_eb02e, Cond.static yJ7_fill_eb02e, Cond.code yJ7_fill_eb02e cJ7_fill_eb02e 5 none, Cond.methodLink RJ7 13 yJ7_rangeCheck_23922, Cond.static yJ7_rangeCheck_23922, Cond.code yJ7_rangeCheck_23922 cJ7_rangeCheck_23922 3 none]
def wsX6_command_r5 : List Cond := [Cond.classLink RJ7 45 RJ4, Cond.instantiable RJ4 4, Cond.classLink RJ7 68 RJx00060, Cond.instantiable RJx00060 6, Cond.initialized RJx00060, Cond.methodLink RJ5 137 yJ2_fillNull_b72d1, Cond.static yJ2_fillNull_b72d1, Cond.initialized RJ2, Cond.code yJ2_fillNull_b72d1 cJ2_fillNull_b72d1 3 none, Cond.methodLink RJ2 380 yJ7_fill_eb02e, Cond.methodLink RX6 217 yX3_firstNode, Cond.instanceMethod yX3_firstNode, Cond.selects RX3 yX3_firstNode yX3_firstNode, Cond.code yX3_firstNode cX3_firstNode 2 (some .int), Cond.fieldLink RX3 15 "HarnessRows$Trees" "firstNodes" "[I", Cond.methodLink RX6 220 yX6_writeNode, Cond.instanceMethod yX6_writeNode, Cond.selects RX6 yX6_writeNode yX6_writeNode, Cond.code yX6_writeNode cX6_writeNode 2 none, Cond.methodLink RX6 204 yX3_cavitiesOf, Cond.instanceMethod yX3_cavitiesOf, Cond.selects RX3 yX3_cavitiesOf yX3_cavitiesOf, Cond.code yX3_cavitiesOf cX3_cavitiesOf 2 (some .int), Cond.fieldLink RX3 9 "HarnessRows$Trees" "cavities" "[I"]
def wsX6_command_r6 : List Cond := [Cond.methodLink RX6 223 yJ4_append_cf468, Cond.instanceMethod yJ4_append_cf468, Cond.selects RJ4 yJ4_append_cf468 yJ4_append_cf468, Cond.code yJ4_append_cf468 cJ4_append_cf468 2 (some (.object "java/lang/StringBuilder")), Cond.methodLink RJ4 50 yJ5_append_3fe6f, Cond.sameMethod "java/lang/AbstractStringBuilder" "java/lang/AbstractStringBuilder" "append" "(C)Ljava/lang/AbstractStringBuilder;", Cond.instanceMethod yJ5_append_3fe6f, Cond.code yJ5_append_3fe6f cJ5_append_3fe6f 2 (some (.object "java/lang/AbstractStringBuilder")), Cond.methodLink RJ5 191 yJ1_canEncode_fc78d, Cond.static yJ1_canEncode_fc78d, Cond.code yJ1_canEncode_fc78d cJ1_canEncode_fc78d 1 (some .boolean), Cond.methodLink RJ5 195 ⟨"java/lang/AbstractStringBuilder", "inflate", "()V"⟩, Cond.sameMethod "java/lang/AbstractStringBuilder" "java/lang/AbstractStringBuilder" "inflate" "()V", Cond.selects RJ4 ⟨"java/lang/AbstractStringBuilder", "inflate", "()V"⟩ yJ5_inflate_da8c8, Cond.instanceMethod yJ5_inflate_da8c8, Cond.code yJ5_inflate_da8c8 cJ5_inflate_da8c8 2 none, Cond.methodLink RJ5 26 yJ2_newBytesFor_77867, Cond.static yJ2_newBytesFor_77867, Cond.code yJ2_newBytesFor_77867 cJ2_newBytesFor_77867 1 (some (.array .byte)), Cond.methodLink RJ2 11 yJ2_newBytesLength_0f7a4, Cond.static yJ2_newBytesLength_0f7a4, Cond.code yJ2_newBytesLength_0f7a4 cJ2_newBytesLength_0f7a4 1 (some .int), Cond.constant RJ2 20 (1073741823), Cond.methodLink RJ5 125 yJ1_inflate_0e8fd]
def wsX6_command_r7 : List Cond := [Cond.static yJ1_inflate_0e8fd, Cond.code yJ1_inflate_0e8fd cJ1_inflate_0e8fd 5 none, Cond.methodLink RJ1 240 yJ2_inflate_0e8fd, Cond.static yJ2_inflate_0e8fd, Cond.code yJ2_inflate_0e8fd cJ2_inflate_0e8fd 6 none, Cond.methodLink RJ2 173 yJ2_checkBoundsOffCount_d044e, Cond.static yJ2_checkBoundsOffCount_d044e, Cond.code yJ2_checkBoundsOffCount_d044e cJ2_checkBoundsOffCount_d044e 3 none, Cond.methodLink RJ2 48 yJ2_length_9d52b, Cond.static yJ2_length_9d52b, Cond.code yJ2_length_9d52b cJ2_length_9d52b 1 (some .int), Cond.methodLink RJ2 419 yJ0_checkBoundsOffCount_cabcc, Cond.static yJ0_checkBoundsOffCount_cabcc, Cond.initialized RJ0, Cond.code yJ0_checkBoundsOffCount_cabcc cJ0_checkBoundsOffCount_cabcc 3 (some .int), Cond.fieldLink RJ0 1053 "jdk/internal/util/Preconditions" "SIOOBE_FORMATTER" "Ljava/util/function/BiFunction;", Cond.methodLink RJ0 1065 yJ3_checkFromIndexSize_8c36e, Cond.static yJ3_checkFromIndexSize_8c36e, Cond.initialized RJ3, Cond.code yJ3_checkFromIndexSize_8c36e cJ3_checkFromIndexSize_8c36e 4 (some .int), Cond.methodLink RJ2 111 yJ2_putChar_b72d1, Cond.static yJ2_putChar_b72d1, Cond.code yJ2_putChar_b72d1 cJ2_putChar_b72d1 3 none, Cond.fieldLink RJ2 44 "java/lang/StringUTF16" "$assertionsDisabled" "Z"]
def wsX6_command_r8 : List Cond := [Cond.fieldLink RJ2 59 "java/lang/StringUTF16" "HI_BYTE_SHIFT" "I", Cond.fieldLink RJ2 63 "java/lang/StringUTF16" "LO_BYTE_SHIFT" "I", Cond.methodLink RJ5 197 yJ2_putCharSB_b72d1, Cond.static yJ2_putCharSB_b72d1, Cond.code yJ2_putCharSB_b72d1 cJ2_putCharSB_b72d1 3 none, Cond.methodLink RJ2 67 yJ2_checkIndex_2214a, Cond.static yJ2_checkIndex_2214a, Cond.code yJ2_checkIndex_2214a cJ2_checkIndex_2214a 2 none, Cond.methodLink RJ2 414 yJ0_checkIndex_df160, Cond.static yJ0_checkIndex_df160, Cond.code yJ0_checkIndex_df160 cJ0_checkIndex_df160 2 none, Cond.methodLink RJ0 1059 yJ3_checkIndex_8e157, Cond.static yJ3_checkIndex_8e157, Cond.code yJ3_checkIndex_8e157 cJ3_checkIndex_8e157 3 (some .int), Cond.methodLink RX6 233 yJ4_append_bf812, Cond.instanceMethod yJ4_append_bf812, Cond.selects RJ4 yJ4_append_bf812 yJ4_append_bf812, Cond.code yJ4_append_bf812 cJ4_append_bf812 2 (some (.object "java/lang/StringBuilder")), Cond.methodLink RJ4 53 yJ5_append_c97b9, Cond.sameMethod "java/lang/AbstractStringBuilder" "java/lang/AbstractStringBuilder" "append" "(I)Ljava/lang/AbstractStringBuilder;", Cond.instanceMethod yJ5_append_c97b9, Cond.code yJ5_append_c97b9 cJ5_append_c97b9 4 (some (.object "java/lang/AbstractStringBuilder")), Cond.methodLink RJ5 245 yJ6_stringSize_0f7a4, Cond.static yJ6_stringSize_0f7a4]
def wsX6_command_r9 : List Cond := [Cond.initialized RJ6, Cond.code yJ6_stringSize_0f7a4 cJ6_stringSize_0f7a4 4 (some .int), Cond.methodLink RJ5 248 yJ6_getChars_ba4f3, Cond.static yJ6_getChars_ba4f3, Cond.code yJ6_getChars_ba4f3 cJ6_getChars_ba4f3 7 (some .int), Cond.fieldLink RJ6 83 "java/lang/Integer" "DigitOnes" "[B", Cond.fieldLink RJ6 87 "java/lang/Integer" "DigitTens" "[B", Cond.methodLink RJ5 251 yJ2_getChars_46870, Cond.static yJ2_getChars_46870, Cond.code yJ2_getChars_46870 cJ2_getChars_46870 5 (some .int), Cond.methodLink RJ2 96 yJ2_checkBoundsBeginEnd_d044e, Cond.static yJ2_checkBoundsBeginEnd_d044e, Cond.code yJ2_checkBoundsBeginEnd_d044e cJ2_checkBoundsBeginEnd_d044e 3 none, Cond.methodLink RJ2 241 yJ0_checkBoundsBeginEnd_23922, Cond.static yJ0_checkBoundsBeginEnd_23922, Cond.code yJ0_checkBoundsBeginEnd_23922 cJ0_checkBoundsBeginEnd_23922 3 none, Cond.methodLink RJ0 1062 yJ3_checkFromToIndex_8c36e, Cond.static yJ3_checkFromToIndex_8c36e, Cond.code yJ3_checkFromToIndex_8c36e cJ3_checkFromToIndex_8c36e 4 (some .int), Cond.methodLink RJ2 393 yJ2_getChars_ba4f3, Cond.static yJ2_getChars_ba4f3, Cond.code yJ2_getChars_ba4f3 cJ2_getChars_ba4f3 7 (some .int), Cond.fieldLink RJ2 403 "java/lang/Integer" "DigitOnes" "[B", Cond.fieldLink RJ2 407 "java/lang/Integer" "DigitTens" "[B"]
def wsX6_command_r10 : List Cond := [Cond.methodLink RX6 227 yX3_otherNode, Cond.instanceMethod yX3_otherNode, Cond.selects RX3 yX3_otherNode yX3_otherNode, Cond.code yX3_otherNode cX3_otherNode 2 (some .int), Cond.fieldLink RX3 18 "HarnessRows$Trees" "otherNodes" "[I", Cond.methodLink RX6 230 yX3_bundleLength, Cond.instanceMethod yX3_bundleLength, Cond.selects RX3 yX3_bundleLength yX3_bundleLength, Cond.code yX3_bundleLength cX3_bundleLength 2 (some .int), Cond.fieldLink RX3 21 "HarnessRows$Trees" "lengths" "[I", Cond.methodLink RX6 183 yJ4_length_8abf5, Cond.instanceMethod yJ4_length_8abf5, Cond.selects RJ4 yJ4_length_8abf5 yJ4_length_8abf5, Cond.code yJ4_length_8abf5 cJ4_length_8abf5 1 (some .int), Cond.methodLink RJ4 343 yJ5_length_8abf5, Cond.sameMethod "java/lang/AbstractStringBuilder" "java/lang/AbstractStringBuilder" "length" "()I", Cond.instanceMethod yJ5_length_8abf5, Cond.code yJ5_length_8abf5 cJ5_length_8abf5 1 (some .int), Cond.methodLink RX6 186 yJ4_charAt_5068e, Cond.instanceMethod yJ4_charAt_5068e, Cond.selects RJ4 yJ4_charAt_5068e yJ4_charAt_5068e, Cond.code yJ4_charAt_5068e cJ4_charAt_5068e 2 (some .char), Cond.methodLink RJ4 329 yJ5_charAt_5068e, Cond.sameMethod "java/lang/AbstractStringBuilder" "java/lang/AbstractStringBuilder" "charAt" "(I)C"]
def wsX6_command_r11 : List Cond := [Cond.instanceMethod yJ5_charAt_5068e, Cond.code yJ5_charAt_5068e cJ5_charAt_5068e 5 (some .char), Cond.methodLink RJ5 138 Lib.Math.min.name, Cond.methodLink RJ5 144 yJ0_checkIndex_df160, Cond.methodLink RJ5 148 yJ2_getChar_3b067, Cond.static yJ2_getChar_3b067, Cond.code yJ2_getChar_3b067 cJ2_getChar_3b067 2 (some .char)]
def wsX6_command : List Cond := .code yX6_command cX6_command 3 (some .int) :: ((wsX6_command_r1 ++ (wsX6_command_r2 ++ (wsX6_command_r3 ++ (wsX6_command_r4 ++ (wsX6_command_r5 ++ (wsX6_command_r6 ++ (wsX6_command_r7 ++ (wsX6_command_r8 ++ (wsX6_command_r9 ++ (wsX6_command_r10 ++ wsX6_command_r11)))))))))) ++ wsX60 ++ wsX30 ++ wsJx7c7330 ++ wsJ40 ++ wsJx000600 ++ (vx_atS RX6 194 "java/lang/IndexOutOfBoundsException" ["java/lang/RuntimeException", "java/lang/Exception"]).filter goodWord ++ (vx_atM "java/lang/ArrayIndexOutOfBoundsException" ["java/lang/IndexOutOfBoundsException", "java/lang/RuntimeException", "java/lang/Exception"]).filter goodWord)
def wsX7_init_r1 : List Cond := [Cond.methodLink RX7 1 objectInit, Cond.instanceMethod objectInit, Cond.code objectInit ⟨#[0xb1]⟩ 1 none, Cond.arrayClass .int, Cond.fieldLink RX7 7 "HarnessRowsModel" "cavities" "[I", Cond.arrayClass .long, Cond.fieldLink RX7 13 "HarnessRowsModel" "far" "[J", Cond.fieldLink RX7 17 "HarnessRowsModel" "bundleA" "[I", Cond.fieldLink RX7 20 "HarnessRowsModel" "bundleB" "[I", Cond.fieldLink RX7 23 "HarnessRowsModel" "bundleLength" "[J", Cond.fieldLink RX7 26 "HarnessRowsModel" "endA" "[I", Cond.fieldLink RX7 29 "HarnessRowsModel" "endB" "[I", Cond.fieldLink RX7 32 "HarnessRowsModel" "loads" "[J", Cond.fieldLink RX7 35 "HarnessRowsModel" "drops" "[J", Cond.fieldLink RX7 38 "HarnessRowsModel" "wireAt" "[I", Cond.fieldLink RX7 41 "HarnessRowsModel" "slackBelow" "J", Cond.arrayClass .boolean, Cond.fieldLink RX7 45 "HarnessRowsModel" "told" "[Z", Cond.fieldLink RX7 49 "HarnessRowsModel" "areas" "[J", Cond.fieldLink RX7 52 "HarnessRowsModel" "amperes" "[J", Cond.fieldLink RX7 55 "HarnessRowsModel" "ohms" "[J", Cond.fieldLink RX7 58 "HarnessRowsModel" "reels" "[I", Cond.fieldLink RX7 61 "HarnessRowsModel" "spliceA" "[I", Cond.fieldLink RX7 64 "HarnessRowsModel" "spliceB" "[I"]
def wsX7_init_r2 : List Cond := [Cond.fieldLink RX7 67 "HarnessRowsModel" "group" "[I", Cond.fieldLink RX7 70 "HarnessRowsModel" "marks" "[I", Cond.fieldLink RX7 73 "HarnessRowsModel" "packed" "[I", Cond.fieldLink RX7 76 "HarnessRowsModel" "tried" "[I", Cond.fieldLink RX7 79 "HarnessRowsModel" "used" "[J", Cond.constantLong RX7 82 (-1)]
def wsX7_init : List Cond := .code yX7_init cX7_init 2 none :: ((wsX7_init_r1 ++ wsX7_init_r2) ++ wsX70 ++ (vx_atM "java/lang/ArrayIndexOutOfBoundsException" ["java/lang/IndexOutOfBoundsException", "java/lang/RuntimeException", "java/lang/Exception"]).filter goodWord)
def wsX7_thrown : List Cond := .code yX7_thrown cX7_thrown 1 (some .int) :: ([.fieldLink RX7 84 "HarnessRowsModel" "thrown" "I"] ++ wsX70)
def wsX7_within : List Cond := .code yX7_within cX7_within 6 (some .boolean) :: ([])
def wsX7_isNode : List Cond := .code yX7_isNode cX7_isNode 2 (some .boolean) :: ([.fieldLink RX7 88 "HarnessRowsModel" "nodes" "I"] ++ wsX70)
def wsX7_isCavity : List Cond := .code yX7_isCavity cX7_isCavity 3 (some .boolean) :: ([.fieldLink RX7 7 "HarnessRowsModel" "cavities" "[I", .methodLink RX7 91 yX7_isNode, .instanceMethod yX7_isNode, .selects RX7 yX7_isNode yX7_isNode, .initialized RX7, .code yX7_isNode cX7_isNode 2 (some .boolean), .fieldLink RX7 88 "HarnessRowsModel" "nodes" "I"] ++ wsX70 ++ (vx_atM "java/lang/ArrayIndexOutOfBoundsException" ["java/lang/IndexOutOfBoundsException", "java/lang/RuntimeException", "java/lang/Exception"]).filter goodWord)
def wsX7_isWire : List Cond := .code yX7_isWire cX7_isWire 2 (some .boolean) :: ([.fieldLink RX7 95 "HarnessRowsModel" "wires" "I"] ++ wsX70)
def wsX7_addNode : List Cond := .code yX7_addNode cX7_addNode 2 (some .int) :: ([.fieldLink RX7 88 "HarnessRowsModel" "nodes" "I", .fieldLink RX7 7 "HarnessRowsModel" "cavities" "[I"] ++ wsX70 ++ (vx_atM "java/lang/ArrayIndexOutOfBoundsException" ["java/lang/IndexOutOfBoundsException", "java/lang/RuntimeException", "java/lang/Exception"]).filter goodWord)
def wsX7_connector : List Cond := .code yX7_connector cX7_connector 2 (some .int) :: ([.constantLong RX7 98 (16), .fieldLink RX7 84 "HarnessRowsModel" "thrown" "I", .methodLink RX7 100 yX7_within, .static yX7_within, .initialized RX7, .code yX7_within cX7_within 6 (some .boolean), .methodLink RX7 104 yX7_addNode, .instanceMethod yX7_addNode, .selects RX7 yX7_addNode yX7_addNode, .code yX7_addNode cX7_addNode 2 (some .int), .fieldLink RX7 88 "HarnessRowsModel" "nodes" "I", .fieldLink RX7 7 "HarnessRowsModel" "cavities" "[I"] ++ wsX70 ++ (vx_atM "java/lang/ArrayIndexOutOfBoundsException" ["java/lang/IndexOutOfBoundsException", "java/lang/RuntimeException", "java/lang/Exception"]).filter goodWord)
def wsX7_node : List Cond := .code yX7_node cX7_node 1 (some .int) :: ([.fieldLink RX7 84 "HarnessRowsModel" "thrown" "I", .methodLink RX7 104 yX7_addNode, .instanceMethod yX7_addNode, .selects RX7 yX7_addNode yX7_addNode, .initialized RX7, .code yX7_addNode cX7_addNode 2 (some .int), .fieldLink RX7 88 "HarnessRowsModel" "nodes" "I", .fieldLink RX7 7 "HarnessRowsModel" "cavities" "[I"] ++ wsX70 ++ (vx_atM "java/lang/ArrayIndexOutOfBoundsException" ["java/lang/IndexOutOfBoundsException", "java/lang/RuntimeException", "java/lang/Exception"]).filter goodWord)
def wsX7_bundle : List Cond := .code yX7_bundle cX7_bundle 11 (some .int) :: ([.constantLong RX7 108 (100000), .fieldLink RX7 84 "HarnessRowsModel" "thrown" "I", .fieldLink RX7 13 "HarnessRowsModel" "far" "[J", .fieldLink RX7 88 "HarnessRowsModel" "nodes" "I", .fieldLink RX7 17 "HarnessRowsModel" "bundleA" "[I", .fieldLink RX7 110 "HarnessRowsModel" "bundles" "I", .fieldLink RX7 20 "HarnessRowsModel" "bundleB" "[I", .fieldLink RX7 23 "HarnessRowsModel" "bundleLength" "[J", .methodLink RX7 91 yX7_isNode, .instanceMethod yX7_isNode, .selects RX7 yX7_isNode yX7_isNode, .initialized RX7, .code yX7_isNode cX7_isNode 2 (some .boolean), .methodLink RX7 100 yX7_within, .static yX7_within, .code yX7_within cX7_within 6 (some .boolean)] ++ wsX70 ++ (vx_atM "java/lang/ArrayIndexOutOfBoundsException" ["java/lang/IndexOutOfBoundsException", "java/lang/RuntimeException", "java/lang/Exception"]).filter goodWord)
def wsX7_wire : List Cond := .code yX7_wire cX7_wire 7 (some .int) :: ([.fieldLink RX7 84 "HarnessRowsModel" "thrown" "I", .fieldLink RX7 38 "HarnessRowsModel" "wireAt" "[I", .fieldLink RX7 95 "HarnessRowsModel" "wires" "I", .fieldLink RX7 26 "HarnessRowsModel" "endA" "[I", .fieldLink RX7 29 "HarnessRowsModel" "endB" "[I", .fieldLink RX7 35 "HarnessRowsModel" "drops" "[J", .constantLong RX7 117 (1000000), .methodLink RX7 113 yX7_isCavity, .instanceMethod yX7_isCavity, .selects RX7 yX7_isCavity yX7_isCavity, .initialized RX7, .code yX7_isCavity cX7_isCavity 3 (some .boolean), .fieldLink RX7 7 "HarnessRowsModel" "cavities" "[I", .methodLink RX7 91 yX7_isNode, .instanceMethod yX7_isNode, .selects RX7 yX7_isNode yX7_isNode, .code yX7_isNode cX7_isNode 2 (some .boolean), .fieldLink RX7 88 "HarnessRowsModel" "nodes" "I"] ++ wsX70 ++ (vx_atM "java/lang/ArrayIndexOutOfBoundsException" ["java/lang/IndexOutOfBoundsException", "java/lang/RuntimeException", "java/lang/Exception"]).filter goodWord)
def wsX7_load : List Cond := .code yX7_load cX7_load 6 (some .boolean) :: ([.constantLong RX7 117 (1000000), .fieldLink RX7 84 "HarnessRowsModel" "thrown" "I", .fieldLink RX7 32 "HarnessRowsModel" "loads" "[J", .fieldLink RX7 35 "HarnessRowsModel" "drops" "[J", .methodLink RX7 119 yX7_isWire, .instanceMethod yX7_isWire, .selects RX7 yX7_isWire yX7_isWire, .initialized RX7, .code yX7_isWire cX7_isWire 2 (some .boolean), .fieldLink RX7 95 "HarnessRowsModel" "wires" "I", .methodLink RX7 100 yX7_within, .static yX7_within, .code yX7_within cX7_within 6 (some .boolean)] ++ wsX70 ++ (vx_atM "java/lang/ArrayIndexOutOfBoundsException" ["java/lang/IndexOutOfBoundsException", "java/lang/RuntimeException", "java/lang/Exception"]).filter goodWord)
def wsX7_slack : List Cond := .code yX7_slack cX7_slack 5 (some .boolean) :: ([.constantLong RX7 122 (1000), .fieldLink RX7 84 "HarnessRowsModel" "thrown" "I", .fieldLink RX7 124 "HarnessRowsModel" "slackAbove" "J", .fieldLink RX7 41 "HarnessRowsModel" "slackBelow" "J", .methodLink RX7 100 yX7_within, .static yX7_within, .initialized RX7, .code yX7_within cX7_within 6 (some .boolean)] ++ wsX70)
def wsX7_lengthOf : List Cond := .code yX7_lengthOf cX7_lengthOf 4 (some .long) :: ([.fieldLink RX7 13 "HarnessRowsModel" "far" "[J", .fieldLink RX7 26 "HarnessRowsModel" "endA" "[I", .fieldLink RX7 29 "HarnessRowsModel" "endB" "[I", .constantLong RX7 82 (-1), .fieldLink RX7 124 "HarnessRowsModel" "slackAbove" "J", .fieldLink RX7 41 "HarnessRowsModel" "slackBelow" "J"] ++ wsX70 ++ (vx_atM "java/lang/ArrayIndexOutOfBoundsException" ["java/lang/IndexOutOfBoundsException", "java/lang/RuntimeException", "java/lang/Exception"]).filter goodWord)
def wsX7_length : List Cond := .code yX7_length cX7_length 2 (some .long) :: ([.fieldLink RX7 84 "HarnessRowsModel" "thrown" "I", .methodLink RX7 119 yX7_isWire, .instanceMethod yX7_isWire, .selects RX7 yX7_isWire yX7_isWire, .initialized RX7, .code yX7_isWire cX7_isWire 2 (some .boolean), .fieldLink RX7 95 "HarnessRowsModel" "wires" "I", .methodLink RX7 127 yX7_lengthOf, .instanceMethod yX7_lengthOf, .selects RX7 yX7_lengthOf yX7_lengthOf, .code yX7_lengthOf cX7_lengthOf 4 (some .long), .fieldLink RX7 13 "HarnessRowsModel" "far" "[J", .fieldLink RX7 26 "HarnessRowsModel" "endA" "[I", .fieldLink RX7 29 "HarnessRowsModel" "endB" "[I", .constantLong RX7 82 (-1), .fieldLink RX7 124 "HarnessRowsModel" "slackAbove" "J", .fieldLink RX7 41 "HarnessRowsModel" "slackBelow" "J"] ++ wsX70 ++ (vx_atM "java/lang/ArrayIndexOutOfBoundsException" ["java/lang/IndexOutOfBoundsException", "java/lang/RuntimeException", "java/lang/Exception"]).filter goodWord)
def wsX7_isNumber : List Cond := .code yX7_isNumber cX7_isNumber 2 (some .boolean) :: ([.constantLong RX7 117 (1000000), .methodLink RX7 100 yX7_within, .static yX7_within, .initialized RX7, .code yX7_within cX7_within 6 (some .boolean)])
def wsX7_table : List Cond := .code yX7_table cX7_table 10 (some .boolean) :: ([.fieldLink RX7 84 "HarnessRowsModel" "thrown" "I", .fieldLink RX7 45 "HarnessRowsModel" "told" "[Z", .fieldLink RX7 49 "HarnessRowsModel" "areas" "[J", .fieldLink RX7 52 "HarnessRowsModel" "amperes" "[J", .fieldLink RX7 55 "HarnessRowsModel" "ohms" "[J", .methodLink RX7 131 yX7_isNumber, .static yX7_isNumber, .initialized RX7, .code yX7_isNumber cX7_isNumber 2 (some .boolean), .constantLong RX7 117 (1000000), .methodLink RX7 100 yX7_within, .static yX7_within, .code yX7_within cX7_within 6 (some .boolean)] ++ wsX70 ++ (vx_atM "java/lang/ArrayIndexOutOfBoundsException" ["java/lang/IndexOutOfBoundsException", "java/lang/RuntimeException", "java/lang/Exception"]).filter goodWord)
def wsX7_gauge : List Cond := .code yX7_gauge cX7_gauge 7 (some .int) :: ([.fieldLink RX7 84 "HarnessRowsModel" "thrown" "I", .fieldLink RX7 45 "HarnessRowsModel" "told" "[Z", .fieldLink RX7 52 "HarnessRowsModel" "amperes" "[J", .fieldLink RX7 32 "HarnessRowsModel" "loads" "[J", .fieldLink RX7 55 "HarnessRowsModel" "ohms" "[J", .fieldLink RX7 35 "HarnessRowsModel" "drops" "[J", .constantLong RX7 135 (1000000000), .fieldLink RX7 49 "HarnessRowsModel" "areas" "[J", .methodLink RX7 119 yX7_isWire, .instanceMethod yX7_isWire, .selects RX7 yX7_isWire yX7_isWire, .initialized RX7, .code yX7_isWire cX7_isWire 2 (some .boolean), .fieldLink RX7 95 "HarnessRowsModel" "wires" "I", .methodLink RX7 127 yX7_lengthOf, .instanceMethod yX7_lengthOf, .selects RX7 yX7_lengthOf yX7_lengthOf, .code yX7_lengthOf cX7_lengthOf 4 (some .long), .fieldLink RX7 13 "HarnessRowsModel" "far" "[J", .fieldLink RX7 26 "HarnessRowsModel" "endA" "[I", .fieldLink RX7 29 "HarnessRowsModel" "endB" "[I", .constantLong RX7 82 (-1), .fieldLink RX7 124 "HarnessRowsModel" "slackAbove" "J", .fieldLink RX7 41 "HarnessRowsModel" "slackBelow" "J"] ++ wsX70 ++ (vx_atM "java/lang/ArrayIndexOutOfBoundsException" ["java/lang/IndexOutOfBoundsException", "java/lang/RuntimeException", "java/lang/Exception"]).filter goodWord)
def wsX7_collect : List Cond := .code yX7_collect cX7_collect 2 none :: ([.fieldLink RX7 137 "HarnessRowsModel" "many" "I", .fieldLink RX7 95 "HarnessRowsModel" "wires" "I", .fieldLink RX7 58 "HarnessRowsModel" "reels" "[I", .fieldLink RX7 73 "HarnessRowsModel" "packed" "[I", .methodLink RX7 127 yX7_lengthOf, .instanceMethod yX7_lengthOf, .selects RX7 yX7_lengthOf yX7_lengthOf, .initialized RX7, .code yX7_lengthOf cX7_lengthOf 4 (some .long), .fieldLink RX7 13 "HarnessRowsModel" "far" "[J", .fieldLink RX7 26 "HarnessRowsModel" "endA" "[I", .fieldLink RX7 29 "HarnessRowsModel" "endB" "[I", .constantLong RX7 82 (-1), .fieldLink RX7 124 "HarnessRowsModel" "slackAbove" "J", .fieldLink RX7 41 "HarnessRowsModel" "slackBelow" "J"] ++ wsX70 ++ (vx_atM "java/lang/ArrayIndexOutOfBoundsException" ["java/lang/IndexOutOfBoundsException", "java/lang/RuntimeException", "java/lang/Exception"]).filter goodWord)
def wsX7_topOf : List Cond := .code yX7_topOf cX7_topOf 4 (some .int) :: ([.fieldLink RX7 76 "HarnessRowsModel" "tried" "[I"] ++ wsX70 ++ (vx_atM "java/lang/ArrayIndexOutOfBoundsException" ["java/lang/IndexOutOfBoundsException", "java/lang/RuntimeException", "java/lang/Exception"]).filter goodWord)
def wsX7_fits : List Cond := .code yX7_fits cX7_fits 9 (some .boolean) :: ([.fieldLink RX7 79 "HarnessRowsModel" "used" "[J", .fieldLink RX7 76 "HarnessRowsModel" "tried" "[I", .fieldLink RX7 137 "HarnessRowsModel" "many" "I", .fieldLink RX7 73 "HarnessRowsModel" "packed" "[I", .methodLink RX7 127 yX7_lengthOf, .instanceMethod yX7_lengthOf, .selects RX7 yX7_lengthOf yX7_lengthOf, .initialized RX7, .code yX7_lengthOf cX7_lengthOf 4 (some .long), .fieldLink RX7 13 "HarnessRowsModel" "far" "[J", .fieldLink RX7 26 "HarnessRowsModel" "endA" "[I", .fieldLink RX7 29 "HarnessRowsModel" "endB" "[I", .constantLong RX7 82 (-1), .fieldLink RX7 124 "HarnessRowsModel" "slackAbove" "J", .fieldLink RX7 41 "HarnessRowsModel" "slackBelow" "J", .methodLink RX7 140 yX7_topOf, .instanceMethod yX7_topOf, .selects RX7 yX7_topOf yX7_topOf, .code yX7_topOf cX7_topOf 4 (some .int)] ++ wsX70 ++ (vx_atM "java/lang/ArrayIndexOutOfBoundsException" ["java/lang/IndexOutOfBoundsException", "java/lang/RuntimeException", "java/lang/Exception"]).filter goodWord)
def wsX7_packExactly : List Cond := .code yX7_packExactly cX7_packExactly 5 (some .int) :: ([.fieldLink RX7 137 "HarnessRowsModel" "many" "I", .fieldLink RX7 58 "HarnessRowsModel" "reels" "[I", .fieldLink RX7 73 "HarnessRowsModel" "packed" "[I", .fieldLink RX7 76 "HarnessRowsModel" "tried" "[I", .methodLink RX7 143 yX7_fits, .instanceMethod yX7_fits, .selects RX7 yX7_fits yX7_fits, .initialized RX7, .code yX7_fits cX7_fits 9 (some .boolean), .fieldLink RX7 79 "HarnessRowsModel" "used" "[J", .methodLink RX7 127 yX7_lengthOf, .instanceMethod yX7_lengthOf, .selects RX7 yX7_lengthOf yX7_lengthOf, .code yX7_lengthOf cX7_lengthOf 4 (some .long), .fieldLink RX7 13 "HarnessRowsModel" "far" "[J", .fieldLink RX7 26 "HarnessRowsModel" "endA" "[I", .fieldLink RX7 29 "HarnessRowsModel" "endB" "[I", .constantLong RX7 82 (-1), .fieldLink RX7 124 "HarnessRowsModel" "slackAbove" "J", .fieldLink RX7 41 "HarnessRowsModel" "slackBelow" "J", .methodLink RX7 140 yX7_topOf, .instanceMethod yX7_topOf, .selects RX7 yX7_topOf yX7_topOf, .code yX7_topOf cX7_topOf 4 (some .int)] ++ wsX70 ++ (vx_atM "java/lang/ArrayIndexOutOfBoundsException" ["java/lang/IndexOutOfBoundsException", "java/lang/RuntimeException", "java/lang/Exception"]).filter goodWord)
def wsX7_packLongest : List Cond := .code yX7_packLongest cX7_packLongest 7 (some .int) :: ([.fieldLink RX7 137 "HarnessRowsModel" "many" "I", .fieldLink RX7 58 "HarnessRowsModel" "reels" "[I", .fieldLink RX7 73 "HarnessRowsModel" "packed" "[I", .fieldLink RX7 79 "HarnessRowsModel" "used" "[J", .methodLink RX7 127 yX7_lengthOf, .instanceMethod yX7_lengthOf, .selects RX7 yX7_lengthOf yX7_lengthOf, .initialized RX7, .code yX7_lengthOf cX7_lengthOf 4 (some .long), .fieldLink RX7 13 "HarnessRowsModel" "far" "[J", .fieldLink RX7 26 "HarnessRowsModel" "endA" "[I", .fieldLink RX7 29 "HarnessRowsModel" "endB" "[I", .constantLong RX7 82 (-1), .fieldLink RX7 124 "HarnessRowsModel" "slackAbove" "J", .fieldLink RX7 41 "HarnessRowsModel" "slackBelow" "J"] ++ wsX70 ++ (vx_atM "java/lang/ArrayIndexOutOfBoundsException" ["java/lang/IndexOutOfBoundsException", "java/lang/RuntimeException", "java/lang/Exception"]).filter goodWord)
def wsX7_reel_r1 : List Cond := [Cond.constantLong RX7 147 (10000000), Cond.fieldLink RX7 84 "HarnessRowsModel" "thrown" "I", Cond.fieldLink RX7 137 "HarnessRowsModel" "many" "I", Cond.fieldLink RX7 73 "HarnessRowsModel" "packed" "[I", Cond.methodLink RX7 100 yX7_within, Cond.static yX7_within, Cond.initialized RX7, Cond.code yX7_within cX7_within 6 (some .boolean), Cond.methodLink RX7 149 yX7_collect, Cond.instanceMethod yX7_collect, Cond.selects RX7 yX7_collect yX7_collect, Cond.code yX7_collect cX7_collect 2 none, Cond.fieldLink RX7 95 "HarnessRowsModel" "wires" "I", Cond.fieldLink RX7 58 "HarnessRowsModel" "reels" "[I", Cond.methodLink RX7 127 yX7_lengthOf, Cond.instanceMethod yX7_lengthOf, Cond.selects RX7 yX7_lengthOf yX7_lengthOf, Cond.code yX7_lengthOf cX7_lengthOf 4 (some .long), Cond.fieldLink RX7 13 "HarnessRowsModel" "far" "[J", Cond.fieldLink RX7 26 "HarnessRowsModel" "endA" "[I", Cond.fieldLink RX7 29 "HarnessRowsModel" "endB" "[I", Cond.constantLong RX7 82 (-1), Cond.fieldLink RX7 124 "HarnessRowsModel" "slackAbove" "J", Cond.fieldLink RX7 41 "HarnessRowsModel" "slackBelow" "J"]
def wsX7_reel_r2 : List Cond := [Cond.methodLink RX7 152 yX7_packLongest, Cond.instanceMethod yX7_packLongest, Cond.selects RX7 yX7_packLongest yX7_packLongest, Cond.code yX7_packLongest cX7_packLongest 7 (some .int), Cond.fieldLink RX7 79 "HarnessRowsModel" "used" "[J", Cond.methodLink RX7 156 yX7_packExactly, Cond.instanceMethod yX7_packExactly, Cond.selects RX7 yX7_packExactly yX7_packExactly, Cond.code yX7_packExactly cX7_packExactly 5 (some .int), Cond.fieldLink RX7 76 "HarnessRowsModel" "tried" "[I", Cond.methodLink RX7 143 yX7_fits, Cond.instanceMethod yX7_fits, Cond.selects RX7 yX7_fits yX7_fits, Cond.code yX7_fits cX7_fits 9 (some .boolean), Cond.methodLink RX7 140 yX7_topOf, Cond.instanceMethod yX7_topOf, Cond.selects RX7 yX7_topOf yX7_topOf, Cond.code yX7_topOf cX7_topOf 4 (some .int)]
def wsX7_reel : List Cond := .code yX7_reel cX7_reel 4 (some .int) :: ((wsX7_reel_r1 ++ wsX7_reel_r2) ++ wsX70 ++ (vx_atM "java/lang/ArrayIndexOutOfBoundsException" ["java/lang/IndexOutOfBoundsException", "java/lang/RuntimeException", "java/lang/Exception"]).filter goodWord)
def wsX7_reelOf : List Cond := .code yX7_reelOf cX7_reelOf 2 (some .int) :: ([.fieldLink RX7 84 "HarnessRowsModel" "thrown" "I", .fieldLink RX7 58 "HarnessRowsModel" "reels" "[I", .methodLink RX7 119 yX7_isWire, .instanceMethod yX7_isWire, .selects RX7 yX7_isWire yX7_isWire, .initialized RX7, .code yX7_isWire cX7_isWire 2 (some .boolean), .fieldLink RX7 95 "HarnessRowsModel" "wires" "I"] ++ wsX70 ++ (vx_atM "java/lang/ArrayIndexOutOfBoundsException" ["java/lang/IndexOutOfBoundsException", "java/lang/RuntimeException", "java/lang/Exception"]).filter goodWord)
def wsX7_splice : List Cond := .code yX7_splice cX7_splice 5 (some .int) :: ([.fieldLink RX7 84 "HarnessRowsModel" "thrown" "I", .fieldLink RX7 159 "HarnessRowsModel" "splices" "I", .fieldLink RX7 61 "HarnessRowsModel" "spliceA" "[I", .fieldLink RX7 64 "HarnessRowsModel" "spliceB" "[I", .methodLink RX7 119 yX7_isWire, .instanceMethod yX7_isWire, .selects RX7 yX7_isWire yX7_isWire, .initialized RX7, .code yX7_isWire cX7_isWire 2 (some .boolean), .fieldLink RX7 95 "HarnessRowsModel" "wires" "I"] ++ wsX70 ++ (vx_atM "java/lang/ArrayIndexOutOfBoundsException" ["java/lang/IndexOutOfBoundsException", "java/lang/RuntimeException", "java/lang/Exception"]).filter goodWord)
def wsX7_joined : List Cond := .code yX7_joined cX7_joined 11 (some .boolean) :: ([.fieldLink RX7 84 "HarnessRowsModel" "thrown" "I", .fieldLink RX7 38 "HarnessRowsModel" "wireAt" "[I", .fieldLink RX7 95 "HarnessRowsModel" "wires" "I", .fieldLink RX7 67 "HarnessRowsModel" "group" "[I", .fieldLink RX7 159 "HarnessRowsModel" "splices" "I", .fieldLink RX7 61 "HarnessRowsModel" "spliceA" "[I", .fieldLink RX7 64 "HarnessRowsModel" "spliceB" "[I", .methodLink RX7 113 yX7_isCavity, .instanceMethod yX7_isCavity, .selects RX7 yX7_isCavity yX7_isCavity, .initialized RX7, .code yX7_isCavity cX7_isCavity 3 (some .boolean), .fieldLink RX7 7 "HarnessRowsModel" "cavities" "[I", .methodLink RX7 91 yX7_isNode, .instanceMethod yX7_isNode, .selects RX7 yX7_isNode yX7_isNode, .code yX7_isNode cX7_isNode 2 (some .boolean), .fieldLink RX7 88 "HarnessRowsModel" "nodes" "I"] ++ wsX70 ++ (vx_atM "java/lang/ArrayIndexOutOfBoundsException" ["java/lang/IndexOutOfBoundsException", "java/lang/RuntimeException", "java/lang/Exception"]).filter goodWord)
def wsX7_meet : List Cond := .code yX7_meet cX7_meet 7 (some .boolean) :: ([.fieldLink RX7 26 "HarnessRowsModel" "endA" "[I", .fieldLink RX7 29 "HarnessRowsModel" "endB" "[I"] ++ wsX70 ++ (vx_atM "java/lang/ArrayIndexOutOfBoundsException" ["java/lang/IndexOutOfBoundsException", "java/lang/RuntimeException", "java/lang/Exception"]).filter goodWord)
def wsX7_colour : List Cond := .code yX7_colour cX7_colour 5 (some .int) :: ([.fieldLink RX7 84 "HarnessRowsModel" "thrown" "I", .fieldLink RX7 67 "HarnessRowsModel" "group" "[I", .methodLink RX7 119 yX7_isWire, .instanceMethod yX7_isWire, .selects RX7 yX7_isWire yX7_isWire, .initialized RX7, .code yX7_isWire cX7_isWire 2 (some .boolean), .fieldLink RX7 95 "HarnessRowsModel" "wires" "I", .methodLink RX7 162 yX7_meet, .instanceMethod yX7_meet, .selects RX7 yX7_meet yX7_meet, .code yX7_meet cX7_meet 7 (some .boolean), .fieldLink RX7 26 "HarnessRowsModel" "endA" "[I", .fieldLink RX7 29 "HarnessRowsModel" "endB" "[I"] ++ wsX70 ++ (vx_atM "java/lang/ArrayIndexOutOfBoundsException" ["java/lang/IndexOutOfBoundsException", "java/lang/RuntimeException", "java/lang/Exception"]).filter goodWord)
def wsX7_variant : List Cond := .code yX7_variant cX7_variant 1 (some .int) :: ([.fieldLink RX7 84 "HarnessRowsModel" "thrown" "I", .fieldLink RX7 165 "HarnessRowsModel" "variants" "I"] ++ wsX70)
def wsX7_isOn : List Cond := .code yX7_isOn cX7_isOn 4 (some .boolean) :: ([.fieldLink RX7 70 "HarnessRowsModel" "marks" "[I"] ++ wsX70 ++ (vx_atM "java/lang/ArrayIndexOutOfBoundsException" ["java/lang/IndexOutOfBoundsException", "java/lang/RuntimeException", "java/lang/Exception"]).filter goodWord)
def wsX7_has : List Cond := .code yX7_has cX7_has 5 (some .boolean) :: ([.fieldLink RX7 165 "HarnessRowsModel" "variants" "I", .fieldLink RX7 84 "HarnessRowsModel" "thrown" "I", .fieldLink RX7 70 "HarnessRowsModel" "marks" "[I", .methodLink RX7 119 yX7_isWire, .instanceMethod yX7_isWire, .selects RX7 yX7_isWire yX7_isWire, .initialized RX7, .code yX7_isWire cX7_isWire 2 (some .boolean), .fieldLink RX7 95 "HarnessRowsModel" "wires" "I", .methodLink RX7 168 yX7_isOn, .instanceMethod yX7_isOn, .selects RX7 yX7_isOn yX7_isOn, .code yX7_isOn cX7_isOn 4 (some .boolean)] ++ wsX70 ++ (vx_atM "java/lang/ArrayIndexOutOfBoundsException" ["java/lang/IndexOutOfBoundsException", "java/lang/RuntimeException", "java/lang/Exception"]).filter goodWord)
def wsX7_told : List Cond := .code yX7_told cX7_told 5 (some .int) :: ([.fieldLink RX7 84 "HarnessRowsModel" "thrown" "I", .fieldLink RX7 95 "HarnessRowsModel" "wires" "I", .fieldLink RX7 165 "HarnessRowsModel" "variants" "I", .fieldLink RX7 26 "HarnessRowsModel" "endA" "[I", .fieldLink RX7 29 "HarnessRowsModel" "endB" "[I", .methodLink RX7 168 yX7_isOn, .instanceMethod yX7_isOn, .selects RX7 yX7_isOn yX7_isOn, .initialized RX7, .code yX7_isOn cX7_isOn 4 (some .boolean), .fieldLink RX7 70 "HarnessRowsModel" "marks" "[I"] ++ wsX70 ++ (vx_atM "java/lang/ArrayIndexOutOfBoundsException" ["java/lang/IndexOutOfBoundsException", "java/lang/RuntimeException", "java/lang/Exception"]).filter goodWord)
def wsX7_say : List Cond := .code yX7_say cX7_say 2 none :: ([.fieldLink RX7 171 "HarnessRowsModel" "written" "I", .fieldLink RX7 174 "HarnessRowsModel" "wanted" "I", .fieldLink RX7 177 "HarnessRowsModel" "found" "I"] ++ wsX70)
def wsX7_sayNumber : List Cond := .code yX7_sayNumber cX7_sayNumber 5 none :: ([.constantLong RX7 180 (10), .methodLink RX7 182 yX7_say, .instanceMethod yX7_say, .selects RX7 yX7_say yX7_say, .initialized RX7, .code yX7_say cX7_say 2 none, .fieldLink RX7 171 "HarnessRowsModel" "written" "I", .fieldLink RX7 174 "HarnessRowsModel" "wanted" "I", .fieldLink RX7 177 "HarnessRowsModel" "found" "I"] ++ wsX70)
def wsX7_sayNode : List Cond := .code yX7_sayNode cX7_sayNode 2 none :: ([.fieldLink RX7 7 "HarnessRowsModel" "cavities" "[I", .methodLink RX7 182 yX7_say, .instanceMethod yX7_say, .selects RX7 yX7_say yX7_say, .initialized RX7, .code yX7_say cX7_say 2 none, .fieldLink RX7 171 "HarnessRowsModel" "written" "I", .fieldLink RX7 174 "HarnessRowsModel" "wanted" "I", .fieldLink RX7 177 "HarnessRowsModel" "found" "I", .methodLink RX7 186 yX7_sayNumber, .instanceMethod yX7_sayNumber, .selects RX7 yX7_sayNumber yX7_sayNumber, .code yX7_sayNumber cX7_sayNumber 5 none, .constantLong RX7 180 (10)] ++ wsX70 ++ (vx_atM "java/lang/ArrayIndexOutOfBoundsException" ["java/lang/IndexOutOfBoundsException", "java/lang/RuntimeException", "java/lang/Exception"]).filter goodWord)
def wsX7_command : List Cond := .code yX7_command cX7_command 3 (some .int) :: ([.fieldLink RX7 110 "HarnessRowsModel" "bundles" "I", .fieldLink RX7 84 "HarnessRowsModel" "thrown" "I", .fieldLink RX7 174 "HarnessRowsModel" "wanted" "I", .fieldLink RX7 171 "HarnessRowsModel" "written" "I", .fieldLink RX7 177 "HarnessRowsModel" "found" "I", .fieldLink RX7 17 "HarnessRowsModel" "bundleA" "[I", .fieldLink RX7 20 "HarnessRowsModel" "bundleB" "[I", .fieldLink RX7 23 "HarnessRowsModel" "bundleLength" "[J", .methodLink RX7 190 yX7_sayNode, .instanceMethod yX7_sayNode, .selects RX7 yX7_sayNode yX7_sayNode, .initialized RX7, .code yX7_sayNode cX7_sayNode 2 none, .fieldLink RX7 7 "HarnessRowsModel" "cavities" "[I", .methodLink RX7 182 yX7_say, .instanceMethod yX7_say, .selects RX7 yX7_say yX7_say, .code yX7_say cX7_say 2 none, .methodLink RX7 186 yX7_sayNumber, .instanceMethod yX7_sayNumber, .selects RX7 yX7_sayNumber yX7_sayNumber, .code yX7_sayNumber cX7_sayNumber 5 none, .constantLong RX7 180 (10)] ++ wsX70 ++ (vx_atM "java/lang/ArrayIndexOutOfBoundsException" ["java/lang/IndexOutOfBoundsException", "java/lang/RuntimeException", "java/lang/Exception"]).filter goodWord)
def wsJ2_putCharsAt_cd4e5 : List Cond := .code yJ2_putCharsAt_cd4e5 cJ2_putCharsAt_cd4e5 7 (some .int) :: ([.fieldLink RJ2 44 "java/lang/StringUTF16" "$assertionsDisabled" "Z", .methodLink RJ2 96 yJ2_checkBoundsBeginEnd_d044e, .static yJ2_checkBoundsBeginEnd_d044e, .initialized RJ2, .code yJ2_checkBoundsBeginEnd_d044e cJ2_checkBoundsBeginEnd_d044e 3 none, .methodLink RJ2 48 yJ2_length_9d52b, .static yJ2_length_9d52b, .code yJ2_length_9d52b cJ2_length_9d52b 1 (some .int), .methodLink RJ2 241 yJ0_checkBoundsBeginEnd_23922, .static yJ0_checkBoundsBeginEnd_23922, .initialized RJ0, .code yJ0_checkBoundsBeginEnd_23922 cJ0_checkBoundsBeginEnd_23922 3 none, .fieldLink RJ0 1053 "jdk/internal/util/Preconditions" "SIOOBE_FORMATTER" "Ljava/util/function/BiFunction;", .methodLink RJ0 1062 yJ3_checkFromToIndex_8c36e, .static yJ3_checkFromToIndex_8c36e, .initialized RJ3, .code yJ3_checkFromToIndex_8c36e cJ3_checkFromToIndex_8c36e 4 (some .int), .methodLink RJ2 111 yJ2_putChar_b72d1, .static yJ2_putChar_b72d1, .code yJ2_putChar_b72d1 cJ2_putChar_b72d1 3 none, .fieldLink RJ2 59 "java/lang/StringUTF16" "HI_BYTE_SHIFT" "I", .fieldLink RJ2 63 "java/lang/StringUTF16" "LO_BYTE_SHIFT" "I"])
def wsJ5_appendNull_278bc_r1 : List Cond := [Cond.fieldLink RJ5 79 "java/lang/AbstractStringBuilder" "count" "I", Cond.fieldLink RJ5 15 "java/lang/AbstractStringBuilder" "value" "[B", Cond.methodLink RJ5 100 ⟨"java/lang/AbstractStringBuilder", "ensureCapacityInternal", "(I)V"⟩, Cond.sameMethod "java/lang/AbstractStringBuilder" "java/lang/AbstractStringBuilder" "ensureCapacityInternal" "(I)V", Cond.selects RJ4 ⟨"java/lang/AbstractStringBuilder", "ensureCapacityInternal", "(I)V"⟩ yJ5_ensureCapacityInternal_d00df, Cond.instanceMethod yJ5_ensureCapacityInternal_d00df, Cond.initialized RJ5, Cond.code yJ5_ensureCapacityInternal_d00df cJ5_ensureCapacityInternal_d00df 3 none, Cond.fieldLink RJ5 22 "java/lang/AbstractStringBuilder" "coder" "B", Cond.methodLink RJ5 104 ⟨"java/lang/AbstractStringBuilder", "newCapacity", "(I)I"⟩, Cond.sameMethod "java/lang/AbstractStringBuilder" "java/lang/AbstractStringBuilder" "newCapacity" "(I)I", Cond.selects RJ4 ⟨"java/lang/AbstractStringBuilder", "newCapacity", "(I)I"⟩ yJ5_newCapacity_0f7a4, Cond.instanceMethod yJ5_newCapacity_0f7a4, Cond.code yJ5_newCapacity_0f7a4 cJ5_newCapacity_0f7a4 6 (some .int), Cond.constant RJ5 39 (2147483647), Cond.methodLink RJ5 114 yJ8_newLength_cabcc, Cond.static yJ8_newLength_cabcc, Cond.initialized RJ8, Cond.code yJ8_newLength_cabcc cJ8_newLength_cabcc 4 (some .int), Cond.methodLink RJ8 194 Lib.Math.max.name, Cond.static Lib.Math.max.name, Cond.initialized "java/lang/Math", Cond.code Lib.Math.max.name Lib.Math.max.code 2 (some .int), Cond.constant RJ8 200 (2147483639)]
def wsJ5_appendNull_278bc_r2 : List Cond := [Cond.methodLink RJ8 201 yJ8_hugeLength_7cf53, Cond.static yJ8_hugeLength_7cf53, Cond.code yJ8_hugeLength_7cf53 cJ8_hugeLength_7cf53 3 (some .int), Cond.methodLink RJ5 108 yJ7_copyOf_9075b, Cond.static yJ7_copyOf_9075b, Cond.initialized RJ7, Cond.code yJ7_copyOf_9075b cJ7_copyOf_9075b 3 (some (.array .byte)), Cond.methodLink RJ7 310 ⟨"[B", "clone", "()Ljava/lang/Object;"⟩, Cond.sameMethod "[B" "java/lang/Object" "clone" "()Ljava/lang/Object;", Cond.native ⟨"java/lang/Object", "clone", "()Ljava/lang/Object;"⟩, Cond.instanceMethod ⟨"java/lang/Object", "clone", "()Ljava/lang/Object;"⟩, Cond.selects "[B" ⟨"[B", "clone", "()Ljava/lang/Object;"⟩ ⟨"java/lang/Object", "clone", "()Ljava/lang/Object;"⟩, Cond.classLink RJ7 311 "[B", Cond.arrayClass .byte, Cond.methodLink RJ7 304 Lib.Math.min.name, Cond.static Lib.Math.min.name, Cond.code Lib.Math.min.name Lib.Math.min.code 2 (some .int), Cond.methodLink RJ7 150 arraycopyName, Cond.native arraycopyName, Cond.static arraycopyName, Cond.initialized "java/lang/System", Cond.methodLink RJ5 83 ⟨"java/lang/AbstractStringBuilder", "isLatin1", "()Z"⟩, Cond.sameMethod "java/lang/AbstractStringBuilder" "java/lang/AbstractStringBuilder" "isLatin1" "()Z", Cond.selects RJ4 ⟨"java/lang/AbstractStringBuilder", "isLatin1", "()Z"⟩ yJ5_isLatin1_aae02]
def wsJ5_appendNull_278bc_r3 : List Cond := [Cond.instanceMethod yJ5_isLatin1_aae02, Cond.code yJ5_isLatin1_aae02 cJ5_isLatin1_aae02 1 (some .boolean), Cond.fieldLink RJ5 18 "java/lang/String" "COMPACT_STRINGS" "Z", Cond.methodLink RJ5 226 yJ2_putCharsAt_cd4e5, Cond.static yJ2_putCharsAt_cd4e5, Cond.initialized RJ2, Cond.code yJ2_putCharsAt_cd4e5 cJ2_putCharsAt_cd4e5 7 (some .int), Cond.fieldLink RJ2 44 "java/lang/StringUTF16" "$assertionsDisabled" "Z", Cond.methodLink RJ2 96 yJ2_checkBoundsBeginEnd_d044e, Cond.static yJ2_checkBoundsBeginEnd_d044e, Cond.code yJ2_checkBoundsBeginEnd_d044e cJ2_checkBoundsBeginEnd_d044e 3 none, Cond.methodLink RJ2 48 yJ2_length_9d52b, Cond.static yJ2_length_9d52b, Cond.code yJ2_length_9d52b cJ2_length_9d52b 1 (some .int), Cond.methodLink RJ2 241 yJ0_checkBoundsBeginEnd_23922, Cond.static yJ0_checkBoundsBeginEnd_23922, Cond.initialized RJ0, Cond.code yJ0_checkBoundsBeginEnd_23922 cJ0_checkBoundsBeginEnd_23922 3 none, Cond.fieldLink RJ0 1053 "jdk/internal/util/Preconditions" "SIOOBE_FORMATTER" "Ljava/util/function/BiFunction;", Cond.methodLink RJ0 1062 yJ3_checkFromToIndex_8c36e, Cond.static yJ3_checkFromToIndex_8c36e, Cond.initialized RJ3, Cond.code yJ3_checkFromToIndex_8c36e cJ3_checkFromToIndex_8c36e 4 (some .int), Cond.methodLink RJ2 111 yJ2_putChar_b72d1]
def wsJ5_appendNull_278bc_r4 : List Cond := [Cond.static yJ2_putChar_b72d1, Cond.code yJ2_putChar_b72d1 cJ2_putChar_b72d1 3 none, Cond.fieldLink RJ2 59 "java/lang/StringUTF16" "HI_BYTE_SHIFT" "I", Cond.fieldLink RJ2 63 "java/lang/StringUTF16" "LO_BYTE_SHIFT" "I"]
def wsJ5_appendNull_278bc : List Cond := .code yJ5_appendNull_278bc cJ5_appendNull_278bc 3 (some (.object "java/lang/AbstractStringBuilder")) :: ((wsJ5_appendNull_278bc_r1 ++ (wsJ5_appendNull_278bc_r2 ++ (wsJ5_appendNull_278bc_r3 ++ wsJ5_appendNull_278bc_r4))) ++ wsJ40)
def wsJ0_coder_7d493 : List Cond := .code yJ0_coder_7d493 cJ0_coder_7d493 1 (some .byte) :: ([.fieldLink RJ0 38 "java/lang/String" "COMPACT_STRINGS" "Z", .fieldLink RJ0 15 "java/lang/String" "coder" "B"] ++ wsJ00)
def wsJ0_length_8abf5 : List Cond := .code yJ0_length_8abf5 cJ0_length_8abf5 1 (some .int) :: ([.fieldLink RJ0 9 "java/lang/String" "value" "[B", .methodLink RJ0 335 yJ0_coder_7d493, .instanceMethod yJ0_coder_7d493, .selects RJ0 yJ0_coder_7d493 yJ0_coder_7d493, .initialized RJ0, .code yJ0_coder_7d493 cJ0_coder_7d493 1 (some .byte), .fieldLink RJ0 38 "java/lang/String" "COMPACT_STRINGS" "Z", .fieldLink RJ0 15 "java/lang/String" "coder" "B"] ++ wsJ00)
def wsJ5_inflateIfNeededFor_a7421_r1 : List Cond := [Cond.fieldLink RJ5 18 "java/lang/String" "COMPACT_STRINGS" "Z", Cond.fieldLink RJ5 22 "java/lang/AbstractStringBuilder" "coder" "B", Cond.methodLink RJ5 40 yJ0_coder_7d493, Cond.instanceMethod yJ0_coder_7d493, Cond.selects RJ0 yJ0_coder_7d493 yJ0_coder_7d493, Cond.initialized RJ0, Cond.code yJ0_coder_7d493 cJ0_coder_7d493 1 (some .byte), Cond.fieldLink RJ0 38 "java/lang/String" "COMPACT_STRINGS" "Z", Cond.fieldLink RJ0 15 "java/lang/String" "coder" "B", Cond.methodLink RJ5 195 ⟨"java/lang/AbstractStringBuilder", "inflate", "()V"⟩, Cond.sameMethod "java/lang/AbstractStringBuilder" "java/lang/AbstractStringBuilder" "inflate" "()V", Cond.selects RJ4 ⟨"java/lang/AbstractStringBuilder", "inflate", "()V"⟩ yJ5_inflate_da8c8, Cond.instanceMethod yJ5_inflate_da8c8, Cond.initialized RJ5, Cond.code yJ5_inflate_da8c8 cJ5_inflate_da8c8 2 none, Cond.fieldLink RJ5 15 "java/lang/AbstractStringBuilder" "value" "[B", Cond.fieldLink RJ5 79 "java/lang/AbstractStringBuilder" "count" "I", Cond.methodLink RJ5 83 ⟨"java/lang/AbstractStringBuilder", "isLatin1", "()Z"⟩, Cond.sameMethod "java/lang/AbstractStringBuilder" "java/lang/AbstractStringBuilder" "isLatin1" "()Z", Cond.selects RJ4 ⟨"java/lang/AbstractStringBuilder", "isLatin1", "()Z"⟩ yJ5_isLatin1_aae02, Cond.instanceMethod yJ5_isLatin1_aae02, Cond.code yJ5_isLatin1_aae02 cJ5_isLatin1_aae02 1 (some .boolean), Cond.methodLink RJ5 26 yJ2_newBytesFor_77867, Cond.static yJ2_newBytesFor_77867]
def wsJ5_inflateIfNeededFor_a7421_r2 : List Cond := [Cond.initialized RJ2, Cond.code yJ2_newBytesFor_77867 cJ2_newBytesFor_77867 1 (some (.array .byte)), Cond.arrayClass .byte, Cond.methodLink RJ2 11 yJ2_newBytesLength_0f7a4, Cond.static yJ2_newBytesLength_0f7a4, Cond.code yJ2_newBytesLength_0f7a4 cJ2_newBytesLength_0f7a4 1 (some .int), Cond.constant RJ2 20 (1073741823), Cond.methodLink RJ5 125 yJ1_inflate_0e8fd, Cond.static yJ1_inflate_0e8fd, Cond.initialized RJ1, Cond.code yJ1_inflate_0e8fd cJ1_inflate_0e8fd 5 none, Cond.methodLink RJ1 240 yJ2_inflate_0e8fd, Cond.static yJ2_inflate_0e8fd, Cond.code yJ2_inflate_0e8fd cJ2_inflate_0e8fd 6 none, Cond.methodLink RJ2 173 yJ2_checkBoundsOffCount_d044e, Cond.static yJ2_checkBoundsOffCount_d044e, Cond.code yJ2_checkBoundsOffCount_d044e cJ2_checkBoundsOffCount_d044e 3 none, Cond.methodLink RJ2 48 yJ2_length_9d52b, Cond.static yJ2_length_9d52b, Cond.code yJ2_length_9d52b cJ2_length_9d52b 1 (some .int), Cond.methodLink RJ2 419 yJ0_checkBoundsOffCount_cabcc, Cond.static yJ0_checkBoundsOffCount_cabcc, Cond.code yJ0_checkBoundsOffCount_cabcc cJ0_checkBoundsOffCount_cabcc 3 (some .int), Cond.fieldLink RJ0 1053 "jdk/internal/util/Preconditions" "SIOOBE_FORMATTER" "Ljava/util/function/BiFunction;"]
def wsJ5_inflateIfNeededFor_a7421_r3 : List Cond := [Cond.methodLink RJ0 1065 yJ3_checkFromIndexSize_8c36e, Cond.static yJ3_checkFromIndexSize_8c36e, Cond.initialized RJ3, Cond.code yJ3_checkFromIndexSize_8c36e cJ3_checkFromIndexSize_8c36e 4 (some .int), Cond.methodLink RJ2 111 yJ2_putChar_b72d1, Cond.static yJ2_putChar_b72d1, Cond.code yJ2_putChar_b72d1 cJ2_putChar_b72d1 3 none, Cond.fieldLink RJ2 44 "java/lang/StringUTF16" "$assertionsDisabled" "Z", Cond.fieldLink RJ2 59 "java/lang/StringUTF16" "HI_BYTE_SHIFT" "I", Cond.fieldLink RJ2 63 "java/lang/StringUTF16" "LO_BYTE_SHIFT" "I"]
def wsJ5_inflateIfNeededFor_a7421 : List Cond := .code yJ5_inflateIfNeededFor_a7421 cJ5_inflateIfNeededFor_a7421 2 none :: ((wsJ5_inflateIfNeededFor_a7421_r1 ++ (wsJ5_inflateIfNeededFor_a7421_r2 ++ wsJ5_inflateIfNeededFor_a7421_r3)) ++ wsJ40 ++ wsJ00)
def wsJ0_getBytes_840e7_r1 : List Cond := [Cond.fieldLink RJ0 9 "java/lang/String" "value" "[B", Cond.methodLink RJ0 212 arraycopyName, Cond.native arraycopyName, Cond.static arraycopyName, Cond.initialized "java/lang/System", Cond.methodLink RJ0 335 yJ0_coder_7d493, Cond.instanceMethod yJ0_coder_7d493, Cond.selects RJ0 yJ0_coder_7d493 yJ0_coder_7d493, Cond.initialized RJ0, Cond.code yJ0_coder_7d493 cJ0_coder_7d493 1 (some .byte), Cond.fieldLink RJ0 38 "java/lang/String" "COMPACT_STRINGS" "Z", Cond.fieldLink RJ0 15 "java/lang/String" "coder" "B", Cond.methodLink RJ0 106 yJ1_inflate_0e8fd, Cond.static yJ1_inflate_0e8fd, Cond.initialized RJ1, Cond.code yJ1_inflate_0e8fd cJ1_inflate_0e8fd 5 none, Cond.methodLink RJ1 240 yJ2_inflate_0e8fd, Cond.static yJ2_inflate_0e8fd, Cond.initialized RJ2, Cond.code yJ2_inflate_0e8fd cJ2_inflate_0e8fd 6 none, Cond.methodLink RJ2 173 yJ2_checkBoundsOffCount_d044e, Cond.static yJ2_checkBoundsOffCount_d044e, Cond.code yJ2_checkBoundsOffCount_d044e cJ2_checkBoundsOffCount_d044e 3 none, Cond.methodLink RJ2 48 yJ2_length_9d52b]
def wsJ0_getBytes_840e7_r2 : List Cond := [Cond.static yJ2_length_9d52b, Cond.code yJ2_length_9d52b cJ2_length_9d52b 1 (some .int), Cond.methodLink RJ2 419 yJ0_checkBoundsOffCount_cabcc, Cond.static yJ0_checkBoundsOffCount_cabcc, Cond.code yJ0_checkBoundsOffCount_cabcc cJ0_checkBoundsOffCount_cabcc 3 (some .int), Cond.fieldLink RJ0 1053 "jdk/internal/util/Preconditions" "SIOOBE_FORMATTER" "Ljava/util/function/BiFunction;", Cond.methodLink RJ0 1065 yJ3_checkFromIndexSize_8c36e, Cond.static yJ3_checkFromIndexSize_8c36e, Cond.initialized RJ3, Cond.code yJ3_checkFromIndexSize_8c36e cJ3_checkFromIndexSize_8c36e 4 (some .int), Cond.methodLink RJ2 111 yJ2_putChar_b72d1, Cond.static yJ2_putChar_b72d1, Cond.code yJ2_putChar_b72d1 cJ2_putChar_b72d1 3 none, Cond.fieldLink RJ2 44 "java/lang/StringUTF16" "$assertionsDisabled" "Z", Cond.fieldLink RJ2 59 "java/lang/StringUTF16" "HI_BYTE_SHIFT" "I", Cond.fieldLink RJ2 63 "java/lang/StringUTF16" "LO_BYTE_SHIFT" "I"]
def wsJ0_getBytes_840e7 : List Cond := .code yJ0_getBytes_840e7 cJ0_getBytes_840e7 4 none :: ((wsJ0_getBytes_840e7_r1 ++ wsJ0_getBytes_840e7_r2) ++ wsJ00)
def wsJ5_putStringAt_47b60_r1 : List Cond := [Cond.fieldLink RJ5 15 "java/lang/AbstractStringBuilder" "value" "[B", Cond.fieldLink RJ5 22 "java/lang/AbstractStringBuilder" "coder" "B", Cond.methodLink RJ5 397 ⟨"java/lang/AbstractStringBuilder", "inflateIfNeededFor", "(Ljava/lang/String;)V"⟩, Cond.sameMethod "java/lang/AbstractStringBuilder" "java/lang/AbstractStringBuilder" "inflateIfNeededFor" "(Ljava/lang/String;)V", Cond.selects RJ4 ⟨"java/lang/AbstractStringBuilder", "inflateIfNeededFor", "(Ljava/lang/String;)V"⟩ yJ5_inflateIfNeededFor_a7421, Cond.instanceMethod yJ5_inflateIfNeededFor_a7421, Cond.initialized RJ5, Cond.code yJ5_inflateIfNeededFor_a7421 cJ5_inflateIfNeededFor_a7421 2 none, Cond.fieldLink RJ5 18 "java/lang/String" "COMPACT_STRINGS" "Z", Cond.methodLink RJ5 40 yJ0_coder_7d493, Cond.instanceMethod yJ0_coder_7d493, Cond.selects RJ0 yJ0_coder_7d493 yJ0_coder_7d493, Cond.initialized RJ0, Cond.code yJ0_coder_7d493 cJ0_coder_7d493 1 (some .byte), Cond.fieldLink RJ0 38 "java/lang/String" "COMPACT_STRINGS" "Z", Cond.fieldLink RJ0 15 "java/lang/String" "coder" "B", Cond.methodLink RJ5 195 ⟨"java/lang/AbstractStringBuilder", "inflate", "()V"⟩, Cond.sameMethod "java/lang/AbstractStringBuilder" "java/lang/AbstractStringBuilder" "inflate" "()V", Cond.selects RJ4 ⟨"java/lang/AbstractStringBuilder", "inflate", "()V"⟩ yJ5_inflate_da8c8, Cond.instanceMethod yJ5_inflate_da8c8, Cond.code yJ5_inflate_da8c8 cJ5_inflate_da8c8 2 none, Cond.fieldLink RJ5 79 "java/lang/AbstractStringBuilder" "count" "I", Cond.methodLink RJ5 83 ⟨"java/lang/AbstractStringBuilder", "isLatin1", "()Z"⟩, Cond.sameMethod "java/lang/AbstractStringBuilder" "java/lang/AbstractStringBuilder" "isLatin1" "()Z"]
def wsJ5_putStringAt_47b60_r2 : List Cond := [Cond.selects RJ4 ⟨"java/lang/AbstractStringBuilder", "isLatin1", "()Z"⟩ yJ5_isLatin1_aae02, Cond.instanceMethod yJ5_isLatin1_aae02, Cond.code yJ5_isLatin1_aae02 cJ5_isLatin1_aae02 1 (some .boolean), Cond.methodLink RJ5 26 yJ2_newBytesFor_77867, Cond.static yJ2_newBytesFor_77867, Cond.initialized RJ2, Cond.code yJ2_newBytesFor_77867 cJ2_newBytesFor_77867 1 (some (.array .byte)), Cond.arrayClass .byte, Cond.methodLink RJ2 11 yJ2_newBytesLength_0f7a4, Cond.static yJ2_newBytesLength_0f7a4, Cond.code yJ2_newBytesLength_0f7a4 cJ2_newBytesLength_0f7a4 1 (some .int), Cond.constant RJ2 20 (1073741823), Cond.methodLink RJ5 125 yJ1_inflate_0e8fd, Cond.static yJ1_inflate_0e8fd, Cond.initialized RJ1, Cond.code yJ1_inflate_0e8fd cJ1_inflate_0e8fd 5 none, Cond.methodLink RJ1 240 yJ2_inflate_0e8fd, Cond.static yJ2_inflate_0e8fd, Cond.code yJ2_inflate_0e8fd cJ2_inflate_0e8fd 6 none, Cond.methodLink RJ2 173 yJ2_checkBoundsOffCount_d044e, Cond.static yJ2_checkBoundsOffCount_d044e, Cond.code yJ2_checkBoundsOffCount_d044e cJ2_checkBoundsOffCount_d044e 3 none, Cond.methodLink RJ2 48 yJ2_length_9d52b, Cond.static yJ2_length_9d52b]
def wsJ5_putStringAt_47b60_r3 : List Cond := [Cond.code yJ2_length_9d52b cJ2_length_9d52b 1 (some .int), Cond.methodLink RJ2 419 yJ0_checkBoundsOffCount_cabcc, Cond.static yJ0_checkBoundsOffCount_cabcc, Cond.code yJ0_checkBoundsOffCount_cabcc cJ0_checkBoundsOffCount_cabcc 3 (some .int), Cond.fieldLink RJ0 1053 "jdk/internal/util/Preconditions" "SIOOBE_FORMATTER" "Ljava/util/function/BiFunction;", Cond.methodLink RJ0 1065 yJ3_checkFromIndexSize_8c36e, Cond.static yJ3_checkFromIndexSize_8c36e, Cond.initialized RJ3, Cond.code yJ3_checkFromIndexSize_8c36e cJ3_checkFromIndexSize_8c36e 4 (some .int), Cond.methodLink RJ2 111 yJ2_putChar_b72d1, Cond.static yJ2_putChar_b72d1, Cond.code yJ2_putChar_b72d1 cJ2_putChar_b72d1 3 none, Cond.fieldLink RJ2 44 "java/lang/StringUTF16" "$assertionsDisabled" "Z", Cond.fieldLink RJ2 59 "java/lang/StringUTF16" "HI_BYTE_SHIFT" "I", Cond.fieldLink RJ2 63 "java/lang/StringUTF16" "LO_BYTE_SHIFT" "I", Cond.methodLink RJ5 399 yJ0_getBytes_840e7, Cond.instanceMethod yJ0_getBytes_840e7, Cond.selects RJ0 yJ0_getBytes_840e7 yJ0_getBytes_840e7, Cond.code yJ0_getBytes_840e7 cJ0_getBytes_840e7 4 none, Cond.fieldLink RJ0 9 "java/lang/String" "value" "[B", Cond.methodLink RJ0 212 arraycopyName, Cond.native arraycopyName, Cond.static arraycopyName, Cond.initialized "java/lang/System"]
def wsJ5_putStringAt_47b60_r4 : List Cond := [Cond.methodLink RJ0 335 yJ0_coder_7d493, Cond.methodLink RJ0 106 yJ1_inflate_0e8fd]
def wsJ5_putStringAt_47b60 : List Cond := .code yJ5_putStringAt_47b60 cJ5_putStringAt_47b60 3 none :: ((wsJ5_putStringAt_47b60_r1 ++ (wsJ5_putStringAt_47b60_r2 ++ (wsJ5_putStringAt_47b60_r3 ++ wsJ5_putStringAt_47b60_r4))) ++ wsJ40 ++ wsJ00)
def wsJ5_append_cf1ce_r1 : List Cond := [Cond.fieldLink RJ5 79 "java/lang/AbstractStringBuilder" "count" "I", Cond.methodLink RJ5 204 ⟨"java/lang/AbstractStringBuilder", "appendNull", "()Ljava/lang/AbstractStringBuilder;"⟩, Cond.sameMethod "java/lang/AbstractStringBuilder" "java/lang/AbstractStringBuilder" "appendNull" "()Ljava/lang/AbstractStringBuilder;", Cond.selects RJ4 ⟨"java/lang/AbstractStringBuilder", "appendNull", "()Ljava/lang/AbstractStringBuilder;"⟩ yJ5_appendNull_278bc, Cond.instanceMethod yJ5_appendNull_278bc, Cond.initialized RJ5, Cond.code yJ5_appendNull_278bc cJ5_appendNull_278bc 3 (some (.object "java/lang/AbstractStringBuilder")), Cond.fieldLink RJ5 15 "java/lang/AbstractStringBuilder" "value" "[B", Cond.methodLink RJ5 100 ⟨"java/lang/AbstractStringBuilder", "ensureCapacityInternal", "(I)V"⟩, Cond.sameMethod "java/lang/AbstractStringBuilder" "java/lang/AbstractStringBuilder" "ensureCapacityInternal" "(I)V", Cond.selects RJ4 ⟨"java/lang/AbstractStringBuilder", "ensureCapacityInternal", "(I)V"⟩ yJ5_ensureCapacityInternal_d00df, Cond.instanceMethod yJ5_ensureCapacityInternal_d00df, Cond.code yJ5_ensureCapacityInternal_d00df cJ5_ensureCapacityInternal_d00df 3 none, Cond.fieldLink RJ5 22 "java/lang/AbstractStringBuilder" "coder" "B", Cond.methodLink RJ5 104 ⟨"java/lang/AbstractStringBuilder", "newCapacity", "(I)I"⟩, Cond.sameMethod "java/lang/AbstractStringBuilder" "java/lang/AbstractStringBuilder" "newCapacity" "(I)I", Cond.selects RJ4 ⟨"java/lang/AbstractStringBuilder", "newCapacity", "(I)I"⟩ yJ5_newCapacity_0f7a4, Cond.instanceMethod yJ5_newCapacity_0f7a4, Cond.code yJ5_newCapacity_0f7a4 cJ5_newCapacity_0f7a4 6 (some .int), Cond.constant RJ5 39 (2147483647), Cond.methodLink RJ5 114 yJ8_newLength_cabcc, Cond.static yJ8_newLength_cabcc, Cond.initialized RJ8, Cond.code yJ8_newLength_cabcc cJ8_newLength_cabcc 4 (some .int)]
def wsJ5_append_cf1ce_r2 : List Cond := [Cond.methodLink RJ8 194 Lib.Math.max.name, Cond.static Lib.Math.max.name, Cond.initialized "java/lang/Math", Cond.code Lib.Math.max.name Lib.Math.max.code 2 (some .int), Cond.constant RJ8 200 (2147483639), Cond.methodLink RJ8 201 yJ8_hugeLength_7cf53, Cond.static yJ8_hugeLength_7cf53, Cond.code yJ8_hugeLength_7cf53 cJ8_hugeLength_7cf53 3 (some .int), Cond.methodLink RJ5 108 yJ7_copyOf_9075b, Cond.static yJ7_copyOf_9075b, Cond.initialized RJ7, Cond.code yJ7_copyOf_9075b cJ7_copyOf_9075b 3 (some (.array .byte)), Cond.methodLink RJ7 310 ⟨"[B", "clone", "()Ljava/lang/Object;"⟩, Cond.sameMethod "[B" "java/lang/Object" "clone" "()Ljava/lang/Object;", Cond.native ⟨"java/lang/Object", "clone", "()Ljava/lang/Object;"⟩, Cond.instanceMethod ⟨"java/lang/Object", "clone", "()Ljava/lang/Object;"⟩, Cond.selects "[B" ⟨"[B", "clone", "()Ljava/lang/Object;"⟩ ⟨"java/lang/Object", "clone", "()Ljava/lang/Object;"⟩, Cond.classLink RJ7 311 "[B", Cond.arrayClass .byte, Cond.methodLink RJ7 304 Lib.Math.min.name, Cond.static Lib.Math.min.name, Cond.code Lib.Math.min.name Lib.Math.min.code 2 (some .int), Cond.methodLink RJ7 150 arraycopyName, Cond.native arraycopyName]
def wsJ5_append_cf1ce_r3 : List Cond := [Cond.static arraycopyName, Cond.initialized "java/lang/System", Cond.methodLink RJ5 83 ⟨"java/lang/AbstractStringBuilder", "isLatin1", "()Z"⟩, Cond.sameMethod "java/lang/AbstractStringBuilder" "java/lang/AbstractStringBuilder" "isLatin1" "()Z", Cond.selects RJ4 ⟨"java/lang/AbstractStringBuilder", "isLatin1", "()Z"⟩ yJ5_isLatin1_aae02, Cond.instanceMethod yJ5_isLatin1_aae02, Cond.code yJ5_isLatin1_aae02 cJ5_isLatin1_aae02 1 (some .boolean), Cond.fieldLink RJ5 18 "java/lang/String" "COMPACT_STRINGS" "Z", Cond.methodLink RJ5 226 yJ2_putCharsAt_cd4e5, Cond.static yJ2_putCharsAt_cd4e5, Cond.initialized RJ2, Cond.code yJ2_putCharsAt_cd4e5 cJ2_putCharsAt_cd4e5 7 (some .int), Cond.fieldLink RJ2 44 "java/lang/StringUTF16" "$assertionsDisabled" "Z", Cond.methodLink RJ2 96 yJ2_checkBoundsBeginEnd_d044e, Cond.static yJ2_checkBoundsBeginEnd_d044e, Cond.code yJ2_checkBoundsBeginEnd_d044e cJ2_checkBoundsBeginEnd_d044e 3 none, Cond.methodLink RJ2 48 yJ2_length_9d52b, Cond.static yJ2_length_9d52b, Cond.code yJ2_length_9d52b cJ2_length_9d52b 1 (some .int), Cond.methodLink RJ2 241 yJ0_checkBoundsBeginEnd_23922, Cond.static yJ0_checkBoundsBeginEnd_23922, Cond.initialized RJ0, Cond.code yJ0_checkBoundsBeginEnd_23922 cJ0_checkBoundsBeginEnd_23922 3 none, Cond.fieldLink RJ0 1053 "jdk/internal/util/Preconditions" "SIOOBE_FORMATTER" "Ljava/util/function/BiFunction;"]
def wsJ5_append_cf1ce_r4 : List Cond := [Cond.methodLink RJ0 1062 yJ3_checkFromToIndex_8c36e, Cond.static yJ3_checkFromToIndex_8c36e, Cond.initialized RJ3, Cond.code yJ3_checkFromToIndex_8c36e cJ3_checkFromToIndex_8c36e 4 (some .int), Cond.methodLink RJ2 111 yJ2_putChar_b72d1, Cond.static yJ2_putChar_b72d1, Cond.code yJ2_putChar_b72d1 cJ2_putChar_b72d1 3 none, Cond.fieldLink RJ2 59 "java/lang/StringUTF16" "HI_BYTE_SHIFT" "I", Cond.fieldLink RJ2 63 "java/lang/StringUTF16" "LO_BYTE_SHIFT" "I", Cond.methodLink RJ5 32 yJ0_length_8abf5, Cond.instanceMethod yJ0_length_8abf5, Cond.selects RJ0 yJ0_length_8abf5 yJ0_length_8abf5, Cond.code yJ0_length_8abf5 cJ0_length_8abf5 1 (some .int), Cond.fieldLink RJ0 9 "java/lang/String" "value" "[B", Cond.methodLink RJ0 335 yJ0_coder_7d493, Cond.instanceMethod yJ0_coder_7d493, Cond.selects RJ0 yJ0_coder_7d493 yJ0_coder_7d493, Cond.code yJ0_coder_7d493 cJ0_coder_7d493 1 (some .byte), Cond.fieldLink RJ0 38 "java/lang/String" "COMPACT_STRINGS" "Z", Cond.fieldLink RJ0 15 "java/lang/String" "coder" "B", Cond.methodLink RJ5 208 ⟨"java/lang/AbstractStringBuilder", "putStringAt", "(ILjava/lang/String;)V"⟩, Cond.sameMethod "java/lang/AbstractStringBuilder" "java/lang/AbstractStringBuilder" "putStringAt" "(ILjava/lang/String;)V", Cond.selects RJ4 ⟨"java/lang/AbstractStringBuilder", "putStringAt", "(ILjava/lang/String;)V"⟩ yJ5_putStringAt_47b60, Cond.instanceMethod yJ5_putStringAt_47b60]
def wsJ5_append_cf1ce_r5 : List Cond := [Cond.code yJ5_putStringAt_47b60 cJ5_putStringAt_47b60 3 none, Cond.methodLink RJ5 397 ⟨"java/lang/AbstractStringBuilder", "inflateIfNeededFor", "(Ljava/lang/String;)V"⟩, Cond.sameMethod "java/lang/AbstractStringBuilder" "java/lang/AbstractStringBuilder" "inflateIfNeededFor" "(Ljava/lang/String;)V", Cond.selects RJ4 ⟨"java/lang/AbstractStringBuilder", "inflateIfNeededFor", "(Ljava/lang/String;)V"⟩ yJ5_inflateIfNeededFor_a7421, Cond.instanceMethod yJ5_inflateIfNeededFor_a7421, Cond.code yJ5_inflateIfNeededFor_a7421 cJ5_inflateIfNeededFor_a7421 2 none, Cond.methodLink RJ5 40 yJ0_coder_7d493, Cond.methodLink RJ5 195 ⟨"java/lang/AbstractStringBuilder", "inflate", "()V"⟩, Cond.sameMethod "java/lang/AbstractStringBuilder" "java/lang/AbstractStringBuilder" "inflate" "()V", Cond.selects RJ4 ⟨"java/lang/AbstractStringBuilder", "inflate", "()V"⟩ yJ5_inflate_da8c8, Cond.instanceMethod yJ5_inflate_da8c8, Cond.code yJ5_inflate_da8c8 cJ5_inflate_da8c8 2 none, Cond.methodLink RJ5 26 yJ2_newBytesFor_77867, Cond.static yJ2_newBytesFor_77867, Cond.code yJ2_newBytesFor_77867 cJ2_newBytesFor_77867 1 (some (.array .byte)), Cond.methodLink RJ2 11 yJ2_newBytesLength_0f7a4, Cond.static yJ2_newBytesLength_0f7a4, Cond.code yJ2_newBytesLength_0f7a4 cJ2_newBytesLength_0f7a4 1 (some .int), Cond.constant RJ2 20 (1073741823), Cond.methodLink RJ5 125 yJ1_inflate_0e8fd, Cond.static yJ1_inflate_0e8fd, Cond.initialized RJ1, Cond.code yJ1_inflate_0e8fd cJ1_inflate_0e8fd 5 none, Cond.methodLink RJ1 240 yJ2_inflate_0e8fd]
def wsJ5_append_cf1ce_r6 : List Cond := [Cond.static yJ2_inflate_0e8fd, Cond.code yJ2_inflate_0e8fd cJ2_inflate_0e8fd 6 none, Cond.methodLink RJ2 173 yJ2_checkBoundsOffCount_d044e, Cond.static yJ2_checkBoundsOffCount_d044e, Cond.code yJ2_checkBoundsOffCount_d044e cJ2_checkBoundsOffCount_d044e 3 none, Cond.methodLink RJ2 419 yJ0_checkBoundsOffCount_cabcc, Cond.static yJ0_checkBoundsOffCount_cabcc, Cond.code yJ0_checkBoundsOffCount_cabcc cJ0_checkBoundsOffCount_cabcc 3 (some .int), Cond.methodLink RJ0 1065 yJ3_checkFromIndexSize_8c36e, Cond.static yJ3_checkFromIndexSize_8c36e, Cond.code yJ3_checkFromIndexSize_8c36e cJ3_checkFromIndexSize_8c36e 4 (some .int), Cond.methodLink RJ5 399 yJ0_getBytes_840e7, Cond.instanceMethod yJ0_getBytes_840e7, Cond.selects RJ0 yJ0_getBytes_840e7 yJ0_getBytes_840e7, Cond.code yJ0_getBytes_840e7 cJ0_getBytes_840e7 4 none, Cond.methodLink RJ0 212 arraycopyName, Cond.methodLink RJ0 106 yJ1_inflate_0e8fd]
def wsJ5_append_cf1ce : List Cond := .code yJ5_append_cf1ce cJ5_append_cf1ce 3 (some (.object "java/lang/AbstractStringBuilder")) :: ((wsJ5_append_cf1ce_r1 ++ (wsJ5_append_cf1ce_r2 ++ (wsJ5_append_cf1ce_r3 ++ (wsJ5_append_cf1ce_r4 ++ (wsJ5_append_cf1ce_r5 ++ wsJ5_append_cf1ce_r6))))) ++ wsJ40 ++ wsJ00)
def wsJ5_getValue_6d5f1 : List Cond := .code yJ5_getValue_6d5f1 cJ5_getValue_6d5f1 1 (some (.array .byte)) :: ([.fieldLink RJ5 15 "java/lang/AbstractStringBuilder" "value" "[B"] ++ wsJ40)
def wsJ4_append_15ec4_r1 : List Cond := [Cond.methodLink RJ4 29 yJ5_append_cf1ce, Cond.sameMethod "java/lang/AbstractStringBuilder" "java/lang/AbstractStringBuilder" "append" "(Ljava/lang/String;)Ljava/lang/AbstractStringBuilder;", Cond.superclass RJ4 RJ5, Cond.instanceMethod yJ5_append_cf1ce, Cond.initialized RJ5, Cond.code yJ5_append_cf1ce cJ5_append_cf1ce 3 (some (.object "java/lang/AbstractStringBuilder")), Cond.fieldLink RJ5 79 "java/lang/AbstractStringBuilder" "count" "I", Cond.methodLink RJ5 204 ⟨"java/lang/AbstractStringBuilder", "appendNull", "()Ljava/lang/AbstractStringBuilder;"⟩, Cond.sameMethod "java/lang/AbstractStringBuilder" "java/lang/AbstractStringBuilder" "appendNull" "()Ljava/lang/AbstractStringBuilder;", Cond.selects RJ4 ⟨"java/lang/AbstractStringBuilder", "appendNull", "()Ljava/lang/AbstractStringBuilder;"⟩ yJ5_appendNull_278bc, Cond.instanceMethod yJ5_appendNull_278bc, Cond.code yJ5_appendNull_278bc cJ5_appendNull_278bc 3 (some (.object "java/lang/AbstractStringBuilder")), Cond.fieldLink RJ5 15 "java/lang/AbstractStringBuilder" "value" "[B", Cond.methodLink RJ5 100 ⟨"java/lang/AbstractStringBuilder", "ensureCapacityInternal", "(I)V"⟩, Cond.sameMethod "java/lang/AbstractStringBuilder" "java/lang/AbstractStringBuilder" "ensureCapacityInternal" "(I)V", Cond.selects RJ4 ⟨"java/lang/AbstractStringBuilder", "ensureCapacityInternal", "(I)V"⟩ yJ5_ensureCapacityInternal_d00df, Cond.instanceMethod yJ5_ensureCapacityInternal_d00df, Cond.code yJ5_ensureCapacityInternal_d00df cJ5_ensureCapacityInternal_d00df 3 none, Cond.fieldLink RJ5 22 "java/lang/AbstractStringBuilder" "coder" "B", Cond.methodLink RJ5 104 ⟨"java/lang/AbstractStringBuilder", "newCapacity", "(I)I"⟩, Cond.sameMethod "java/lang/AbstractStringBuilder" "java/lang/AbstractStringBuilder" "newCapacity" "(I)I", Cond.selects RJ4 ⟨"java/lang/AbstractStringBuilder", "newCapacity", "(I)I"⟩ yJ5_newCapacity_0f7a4, Cond.instanceMethod yJ5_newCapacity_0f7a4, Cond.code yJ5_newCapacity_0f7a4 cJ5_newCapacity_0f7a4 6 (some .int)]
def wsJ4_append_15ec4_r2 : List Cond := [Cond.constant RJ5 39 (2147483647), Cond.methodLink RJ5 114 yJ8_newLength_cabcc, Cond.static yJ8_newLength_cabcc, Cond.initialized RJ8, Cond.code yJ8_newLength_cabcc cJ8_newLength_cabcc 4 (some .int), Cond.methodLink RJ8 194 Lib.Math.max.name, Cond.static Lib.Math.max.name, Cond.initialized "java/lang/Math", Cond.code Lib.Math.max.name Lib.Math.max.code 2 (some .int), Cond.constant RJ8 200 (2147483639), Cond.methodLink RJ8 201 yJ8_hugeLength_7cf53, Cond.static yJ8_hugeLength_7cf53, Cond.code yJ8_hugeLength_7cf53 cJ8_hugeLength_7cf53 3 (some .int), Cond.methodLink RJ5 108 yJ7_copyOf_9075b, Cond.static yJ7_copyOf_9075b, Cond.initialized RJ7, Cond.code yJ7_copyOf_9075b cJ7_copyOf_9075b 3 (some (.array .byte)), Cond.methodLink RJ7 310 ⟨"[B", "clone", "()Ljava/lang/Object;"⟩, Cond.sameMethod "[B" "java/lang/Object" "clone" "()Ljava/lang/Object;", Cond.native ⟨"java/lang/Object", "clone", "()Ljava/lang/Object;"⟩, Cond.instanceMethod ⟨"java/lang/Object", "clone", "()Ljava/lang/Object;"⟩, Cond.selects "[B" ⟨"[B", "clone", "()Ljava/lang/Object;"⟩ ⟨"java/lang/Object", "clone", "()Ljava/lang/Object;"⟩, Cond.classLink RJ7 311 "[B", Cond.arrayClass .byte]
def wsJ4_append_15ec4_r3 : List Cond := [Cond.methodLink RJ7 304 Lib.Math.min.name, Cond.static Lib.Math.min.name, Cond.code Lib.Math.min.name Lib.Math.min.code 2 (some .int), Cond.methodLink RJ7 150 arraycopyName, Cond.native arraycopyName, Cond.static arraycopyName, Cond.initialized "java/lang/System", Cond.methodLink RJ5 83 ⟨"java/lang/AbstractStringBuilder", "isLatin1", "()Z"⟩, Cond.sameMethod "java/lang/AbstractStringBuilder" "java/lang/AbstractStringBuilder" "isLatin1" "()Z", Cond.selects RJ4 ⟨"java/lang/AbstractStringBuilder", "isLatin1", "()Z"⟩ yJ5_isLatin1_aae02, Cond.instanceMethod yJ5_isLatin1_aae02, Cond.code yJ5_isLatin1_aae02 cJ5_isLatin1_aae02 1 (some .boolean), Cond.fieldLink RJ5 18 "java/lang/String" "COMPACT_STRINGS" "Z", Cond.methodLink RJ5 226 yJ2_putCharsAt_cd4e5, Cond.static yJ2_putCharsAt_cd4e5, Cond.initialized RJ2, Cond.code yJ2_putCharsAt_cd4e5 cJ2_putCharsAt_cd4e5 7 (some .int), Cond.fieldLink RJ2 44 "java/lang/StringUTF16" "$assertionsDisabled" "Z", Cond.methodLink RJ2 96 yJ2_checkBoundsBeginEnd_d044e, Cond.static yJ2_checkBoundsBeginEnd_d044e, Cond.code yJ2_checkBoundsBeginEnd_d044e cJ2_checkBoundsBeginEnd_d044e 3 none, Cond.methodLink RJ2 48 yJ2_length_9d52b, Cond.static yJ2_length_9d52b, Cond.code yJ2_length_9d52b cJ2_length_9d52b 1 (some .int)]
def wsJ4_append_15ec4_r4 : List Cond := [Cond.methodLink RJ2 241 yJ0_checkBoundsBeginEnd_23922, Cond.static yJ0_checkBoundsBeginEnd_23922, Cond.initialized RJ0, Cond.code yJ0_checkBoundsBeginEnd_23922 cJ0_checkBoundsBeginEnd_23922 3 none, Cond.fieldLink RJ0 1053 "jdk/internal/util/Preconditions" "SIOOBE_FORMATTER" "Ljava/util/function/BiFunction;", Cond.methodLink RJ0 1062 yJ3_checkFromToIndex_8c36e, Cond.static yJ3_checkFromToIndex_8c36e, Cond.initialized RJ3, Cond.code yJ3_checkFromToIndex_8c36e cJ3_checkFromToIndex_8c36e 4 (some .int), Cond.methodLink RJ2 111 yJ2_putChar_b72d1, Cond.static yJ2_putChar_b72d1, Cond.code yJ2_putChar_b72d1 cJ2_putChar_b72d1 3 none, Cond.fieldLink RJ2 59 "java/lang/StringUTF16" "HI_BYTE_SHIFT" "I", Cond.fieldLink RJ2 63 "java/lang/StringUTF16" "LO_BYTE_SHIFT" "I", Cond.methodLink RJ5 32 yJ0_length_8abf5, Cond.instanceMethod yJ0_length_8abf5, Cond.selects RJ0 yJ0_length_8abf5 yJ0_length_8abf5, Cond.code yJ0_length_8abf5 cJ0_length_8abf5 1 (some .int), Cond.fieldLink RJ0 9 "java/lang/String" "value" "[B", Cond.methodLink RJ0 335 yJ0_coder_7d493, Cond.instanceMethod yJ0_coder_7d493, Cond.selects RJ0 yJ0_coder_7d493 yJ0_coder_7d493, Cond.code yJ0_coder_7d493 cJ0_coder_7d493 1 (some .byte), Cond.fieldLink RJ0 38 "java/lang/String" "COMPACT_STRINGS" "Z"]
def wsJ4_append_15ec4_r5 : List Cond := [Cond.fieldLink RJ0 15 "java/lang/String" "coder" "B", Cond.methodLink RJ5 208 ⟨"java/lang/AbstractStringBuilder", "putStringAt", "(ILjava/lang/String;)V"⟩, Cond.sameMethod "java/lang/AbstractStringBuilder" "java/lang/AbstractStringBuilder" "putStringAt" "(ILjava/lang/String;)V", Cond.selects RJ4 ⟨"java/lang/AbstractStringBuilder", "putStringAt", "(ILjava/lang/String;)V"⟩ yJ5_putStringAt_47b60, Cond.instanceMethod yJ5_putStringAt_47b60, Cond.code yJ5_putStringAt_47b60 cJ5_putStringAt_47b60 3 none, Cond.methodLink RJ5 397 ⟨"java/lang/AbstractStringBuilder", "inflateIfNeededFor", "(Ljava/lang/String;)V"⟩, Cond.sameMethod "java/lang/AbstractStringBuilder" "java/lang/AbstractStringBuilder" "inflateIfNeededFor" "(Ljava/lang/String;)V", Cond.selects RJ4 ⟨"java/lang/AbstractStringBuilder", "inflateIfNeededFor", "(Ljava/lang/String;)V"⟩ yJ5_inflateIfNeededFor_a7421, Cond.instanceMethod yJ5_inflateIfNeededFor_a7421, Cond.code yJ5_inflateIfNeededFor_a7421 cJ5_inflateIfNeededFor_a7421 2 none, Cond.methodLink RJ5 40 yJ0_coder_7d493, Cond.methodLink RJ5 195 ⟨"java/lang/AbstractStringBuilder", "inflate", "()V"⟩, Cond.sameMethod "java/lang/AbstractStringBuilder" "java/lang/AbstractStringBuilder" "inflate" "()V", Cond.selects RJ4 ⟨"java/lang/AbstractStringBuilder", "inflate", "()V"⟩ yJ5_inflate_da8c8, Cond.instanceMethod yJ5_inflate_da8c8, Cond.code yJ5_inflate_da8c8 cJ5_inflate_da8c8 2 none, Cond.methodLink RJ5 26 yJ2_newBytesFor_77867, Cond.static yJ2_newBytesFor_77867, Cond.code yJ2_newBytesFor_77867 cJ2_newBytesFor_77867 1 (some (.array .byte)), Cond.methodLink RJ2 11 yJ2_newBytesLength_0f7a4, Cond.static yJ2_newBytesLength_0f7a4, Cond.code yJ2_newBytesLength_0f7a4 cJ2_newBytesLength_0f7a4 1 (some .int), Cond.constant RJ2 20 (1073741823)]
def wsJ4_append_15ec4_r6 : List Cond := [Cond.methodLink RJ5 125 yJ1_inflate_0e8fd, Cond.static yJ1_inflate_0e8fd, Cond.initialized RJ1, Cond.code yJ1_inflate_0e8fd cJ1_inflate_0e8fd 5 none, Cond.methodLink RJ1 240 yJ2_inflate_0e8fd, Cond.static yJ2_inflate_0e8fd, Cond.code yJ2_inflate_0e8fd cJ2_inflate_0e8fd 6 none, Cond.methodLink RJ2 173 yJ2_checkBoundsOffCount_d044e, Cond.static yJ2_checkBoundsOffCount_d044e, Cond.code yJ2_checkBoundsOffCount_d044e cJ2_checkBoundsOffCount_d044e 3 none, Cond.methodLink RJ2 419 yJ0_checkBoundsOffCount_cabcc, Cond.static yJ0_checkBoundsOffCount_cabcc, Cond.code yJ0_checkBoundsOffCount_cabcc cJ0_checkBoundsOffCount_cabcc 3 (some .int), Cond.methodLink RJ0 1065 yJ3_checkFromIndexSize_8c36e, Cond.static yJ3_checkFromIndexSize_8c36e, Cond.code yJ3_checkFromIndexSize_8c36e cJ3_checkFromIndexSize_8c36e 4 (some .int), Cond.methodLink RJ5 399 yJ0_getBytes_840e7, Cond.instanceMethod yJ0_getBytes_840e7, Cond.selects RJ0 yJ0_getBytes_840e7 yJ0_getBytes_840e7, Cond.code yJ0_getBytes_840e7 cJ0_getBytes_840e7 4 none, Cond.methodLink RJ0 212 arraycopyName, Cond.methodLink RJ0 106 yJ1_inflate_0e8fd]
def wsJ4_append_15ec4 : List Cond := .code yJ4_append_15ec4 cJ4_append_15ec4 2 (some (.object "java/lang/StringBuilder")) :: ((wsJ4_append_15ec4_r1 ++ (wsJ4_append_15ec4_r2 ++ (wsJ4_append_15ec4_r3 ++ (wsJ4_append_15ec4_r4 ++ (wsJ4_append_15ec4_r5 ++ wsJ4_append_15ec4_r6))))) ++ wsJ40 ++ wsJ00)
def wsJ7_checkLength_df160 : List Cond := .code yJ7_checkLength_df160 cJ7_checkLength_df160 2 none :: ([.classLink RJ7 45 RJ4, .instantiable RJ4 4, .initialized RJ4] ++ wsJ40)
def wsJ7_copyOfRangeByte_39247 : List Cond := .code yJ7_copyOfRangeByte_39247 cJ7_copyOfRangeByte_39247 5 (some (.array .byte)) :: ([.arrayClass .byte, .methodLink RJ7 304 Lib.Math.min.name, .static Lib.Math.min.name, .initialized "java/lang/Math", .code Lib.Math.min.name Lib.Math.min.code 2 (some .int), .methodLink RJ7 150 arraycopyName, .native arraycopyName, .static arraycopyName, .initialized "java/lang/System", .methodLink RJ7 343 yJ7_checkLength_df160, .static yJ7_checkLength_df160, .initialized RJ7, .code yJ7_checkLength_df160 cJ7_checkLength_df160 2 none, .classLink RJ7 45 RJ4, .instantiable RJ4 4, .initialized RJ4] ++ wsJ40)
def wsJ7_copyOfRange_39247_r1 : List Cond := [Cond.methodLink RJ7 310 ⟨"[B", "clone", "()Ljava/lang/Object;"⟩, Cond.sameMethod "[B" "java/lang/Object" "clone" "()Ljava/lang/Object;", Cond.native ⟨"java/lang/Object", "clone", "()Ljava/lang/Object;"⟩, Cond.instanceMethod ⟨"java/lang/Object", "clone", "()Ljava/lang/Object;"⟩, Cond.selects "[B" ⟨"[B", "clone", "()Ljava/lang/Object;"⟩ ⟨"java/lang/Object", "clone", "()Ljava/lang/Object;"⟩, Cond.classLink RJ7 311 "[B", Cond.methodLink RJ7 339 yJ7_copyOfRangeByte_39247, Cond.static yJ7_copyOfRangeByte_39247, Cond.initialized RJ7, Cond.code yJ7_copyOfRangeByte_39247 cJ7_copyOfRangeByte_39247 5 (some (.array .byte)), Cond.arrayClass .byte, Cond.methodLink RJ7 304 Lib.Math.min.name, Cond.static Lib.Math.min.name, Cond.initialized "java/lang/Math", Cond.code Lib.Math.min.name Lib.Math.min.code 2 (some .int), Cond.methodLink RJ7 150 arraycopyName, Cond.native arraycopyName, Cond.static arraycopyName, Cond.initialized "java/lang/System", Cond.methodLink RJ7 343 yJ7_checkLength_df160, Cond.static yJ7_checkLength_df160, Cond.code yJ7_checkLength_df160 cJ7_checkLength_df160 2 none, Cond.classLink RJ7 45 RJ4, Cond.instantiable RJ4 4]
def wsJ7_copyOfRange_39247_r2 : List Cond := [Cond.initialized RJ4]
def wsJ7_copyOfRange_39247 : List Cond := .code yJ7_copyOfRange_39247 cJ7_copyOfRange_39247 3 (some (.array .byte)) :: ((wsJ7_copyOfRange_39247_r1 ++ wsJ7_copyOfRange_39247_r2) ++ wsJ40)
def wsJ2_compress_5af95 : List Cond := .code yJ2_compress_5af95 cJ2_compress_5af95 7 (some .int) :: ([.methodLink RJ2 173 yJ2_checkBoundsOffCount_d044e, .static yJ2_checkBoundsOffCount_d044e, .initialized RJ2, .code yJ2_checkBoundsOffCount_d044e cJ2_checkBoundsOffCount_d044e 3 none, .methodLink RJ2 48 yJ2_length_9d52b, .static yJ2_length_9d52b, .code yJ2_length_9d52b cJ2_length_9d52b 1 (some .int), .methodLink RJ2 419 yJ0_checkBoundsOffCount_cabcc, .static yJ0_checkBoundsOffCount_cabcc, .initialized RJ0, .code yJ0_checkBoundsOffCount_cabcc cJ0_checkBoundsOffCount_cabcc 3 (some .int), .fieldLink RJ0 1053 "jdk/internal/util/Preconditions" "SIOOBE_FORMATTER" "Ljava/util/function/BiFunction;", .methodLink RJ0 1065 yJ3_checkFromIndexSize_8c36e, .static yJ3_checkFromIndexSize_8c36e, .initialized RJ3, .code yJ3_checkFromIndexSize_8c36e cJ3_checkFromIndexSize_8c36e 4 (some .int), .methodLink RJ2 71 yJ2_getChar_3b067, .static yJ2_getChar_3b067, .code yJ2_getChar_3b067 cJ2_getChar_3b067 2 (some .char), .fieldLink RJ2 44 "java/lang/StringUTF16" "$assertionsDisabled" "Z", .fieldLink RJ2 59 "java/lang/StringUTF16" "HI_BYTE_SHIFT" "I", .fieldLink RJ2 63 "java/lang/StringUTF16" "LO_BYTE_SHIFT" "I"])
def wsJ2_compress_39247_r1 : List Cond := [Cond.arrayClass .byte, Cond.methodLink RJ2 123 yJ2_compress_5af95, Cond.static yJ2_compress_5af95, Cond.initialized RJ2, Cond.code yJ2_compress_5af95 cJ2_compress_5af95 7 (some .int), Cond.methodLink RJ2 173 yJ2_checkBoundsOffCount_d044e, Cond.static yJ2_checkBoundsOffCount_d044e, Cond.code yJ2_checkBoundsOffCount_d044e cJ2_checkBoundsOffCount_d044e 3 none, Cond.methodLink RJ2 48 yJ2_length_9d52b, Cond.static yJ2_length_9d52b, Cond.code yJ2_length_9d52b cJ2_length_9d52b 1 (some .int), Cond.methodLink RJ2 419 yJ0_checkBoundsOffCount_cabcc, Cond.static yJ0_checkBoundsOffCount_cabcc, Cond.initialized RJ0, Cond.code yJ0_checkBoundsOffCount_cabcc cJ0_checkBoundsOffCount_cabcc 3 (some .int), Cond.fieldLink RJ0 1053 "jdk/internal/util/Preconditions" "SIOOBE_FORMATTER" "Ljava/util/function/BiFunction;", Cond.methodLink RJ0 1065 yJ3_checkFromIndexSize_8c36e, Cond.static yJ3_checkFromIndexSize_8c36e, Cond.initialized RJ3, Cond.code yJ3_checkFromIndexSize_8c36e cJ3_checkFromIndexSize_8c36e 4 (some .int), Cond.methodLink RJ2 71 yJ2_getChar_3b067, Cond.static yJ2_getChar_3b067, Cond.code yJ2_getChar_3b067 cJ2_getChar_3b067 2 (some .char), Cond.fieldLink RJ2 44 "java/lang/StringUTF16" "$assertionsDisabled" "Z"]
def wsJ2_compress_39247_r2 : List Cond := [Cond.fieldLink RJ2 59 "java/lang/StringUTF16" "HI_BYTE_SHIFT" "I", Cond.fieldLink RJ2 63 "java/lang/StringUTF16" "LO_BYTE_SHIFT" "I", Cond.methodLink RJ2 11 yJ2_newBytesLength_0f7a4, Cond.static yJ2_newBytesLength_0f7a4, Cond.code yJ2_newBytesLength_0f7a4 cJ2_newBytesLength_0f7a4 1 (some .int), Cond.constant RJ2 20 (1073741823), Cond.methodLink RJ2 126 yJ7_copyOfRange_39247, Cond.static yJ7_copyOfRange_39247, Cond.initialized RJ7, Cond.code yJ7_copyOfRange_39247 cJ7_copyOfRange_39247 3 (some (.array .byte)), Cond.methodLink RJ7 310 ⟨"[B", "clone", "()Ljava/lang/Object;"⟩, Cond.sameMethod "[B" "java/lang/Object" "clone" "()Ljava/lang/Object;", Cond.native ⟨"java/lang/Object", "clone", "()Ljava/lang/Object;"⟩, Cond.instanceMethod ⟨"java/lang/Object", "clone", "()Ljava/lang/Object;"⟩, Cond.selects "[B" ⟨"[B", "clone", "()Ljava/lang/Object;"⟩ ⟨"java/lang/Object", "clone", "()Ljava/lang/Object;"⟩, Cond.classLink RJ7 311 "[B", Cond.methodLink RJ7 339 yJ7_copyOfRangeByte_39247, Cond.static yJ7_copyOfRangeByte_39247, Cond.code yJ7_copyOfRangeByte_39247 cJ7_copyOfRangeByte_39247 5 (some (.array .byte)), Cond.methodLink RJ7 304 Lib.Math.min.name, Cond.static Lib.Math.min.name, Cond.initialized "java/lang/Math", Cond.code Lib.Math.min.name Lib.Math.min.code 2 (some .int), Cond.methodLink RJ7 150 arraycopyName]
def wsJ2_compress_39247_r3 : List Cond := [Cond.native arraycopyName, Cond.static arraycopyName, Cond.initialized "java/lang/System", Cond.methodLink RJ7 343 yJ7_checkLength_df160, Cond.static yJ7_checkLength_df160, Cond.code yJ7_checkLength_df160 cJ7_checkLength_df160 2 none, Cond.classLink RJ7 45 RJ4, Cond.instantiable RJ4 4, Cond.initialized RJ4]
def wsJ2_compress_39247 : List Cond := .code yJ2_compress_39247 cJ2_compress_39247 6 (some (.array .byte)) :: ((wsJ2_compress_39247_r1 ++ (wsJ2_compress_39247_r2 ++ wsJ2_compress_39247_r3)) ++ wsJ40)
def wsJ2_coderFromArrayLen_85cad : List Cond := .code yJ2_coderFromArrayLen_85cad cJ2_coderFromArrayLen_85cad 2 (some .byte) :: ([])
def wsJ0_init_db425_r1 : List Cond := [Cond.methodLink RJ0 1 objectInit, Cond.instanceMethod objectInit, Cond.code objectInit ⟨#[0xb1]⟩ 1 none, Cond.fieldLink RJ0 15 "java/lang/String" "coder" "B", Cond.fieldLink RJ0 9 "java/lang/String" "value" "[B", Cond.fieldLink RJ0 38 "java/lang/String" "COMPACT_STRINGS" "Z", Cond.fieldLink RJ0 1048 "java/lang/AbstractStringBuilder" "maybeLatin1" "Z", Cond.methodLink RJ0 552 ⟨"java/lang/AbstractStringBuilder", "getValue", "()[B"⟩, Cond.sameMethod "java/lang/AbstractStringBuilder" "java/lang/AbstractStringBuilder" "getValue" "()[B", Cond.selects RJ4 ⟨"java/lang/AbstractStringBuilder", "getValue", "()[B"⟩ yJ5_getValue_6d5f1, Cond.instanceMethod yJ5_getValue_6d5f1, Cond.initialized RJ5, Cond.code yJ5_getValue_6d5f1 cJ5_getValue_6d5f1 1 (some (.array .byte)), Cond.fieldLink RJ5 15 "java/lang/AbstractStringBuilder" "value" "[B", Cond.methodLink RJ0 549 ⟨"java/lang/AbstractStringBuilder", "length", "()I"⟩, Cond.sameMethod "java/lang/AbstractStringBuilder" "java/lang/AbstractStringBuilder" "length" "()I", Cond.instanceMethod ⟨"java/lang/AbstractStringBuilder", "length", "()I"⟩, Cond.selects RJ4 ⟨"java/lang/AbstractStringBuilder", "length", "()I"⟩ yJ4_length_8abf5, Cond.instanceMethod yJ4_length_8abf5, Cond.initialized RJ4, Cond.code yJ4_length_8abf5 cJ4_length_8abf5 1 (some .int), Cond.methodLink RJ4 343 yJ5_length_8abf5, Cond.superclass RJ4 RJ5, Cond.instanceMethod yJ5_length_8abf5]
def wsJ0_init_db425_r2 : List Cond := [Cond.code yJ5_length_8abf5 cJ5_length_8abf5 1 (some .int), Cond.fieldLink RJ5 79 "java/lang/AbstractStringBuilder" "count" "I", Cond.methodLink RJ0 1047 ⟨"java/lang/AbstractStringBuilder", "isLatin1", "()Z"⟩, Cond.sameMethod "java/lang/AbstractStringBuilder" "java/lang/AbstractStringBuilder" "isLatin1" "()Z", Cond.selects RJ4 ⟨"java/lang/AbstractStringBuilder", "isLatin1", "()Z"⟩ yJ5_isLatin1_aae02, Cond.instanceMethod yJ5_isLatin1_aae02, Cond.code yJ5_isLatin1_aae02 cJ5_isLatin1_aae02 1 (some .boolean), Cond.fieldLink RJ5 18 "java/lang/String" "COMPACT_STRINGS" "Z", Cond.fieldLink RJ5 22 "java/lang/AbstractStringBuilder" "coder" "B", Cond.methodLink RJ0 54 yJ7_copyOfRange_39247, Cond.static yJ7_copyOfRange_39247, Cond.initialized RJ7, Cond.code yJ7_copyOfRange_39247 cJ7_copyOfRange_39247 3 (some (.array .byte)), Cond.methodLink RJ7 310 ⟨"[B", "clone", "()Ljava/lang/Object;"⟩, Cond.sameMethod "[B" "java/lang/Object" "clone" "()Ljava/lang/Object;", Cond.native ⟨"java/lang/Object", "clone", "()Ljava/lang/Object;"⟩, Cond.instanceMethod ⟨"java/lang/Object", "clone", "()Ljava/lang/Object;"⟩, Cond.selects "[B" ⟨"[B", "clone", "()Ljava/lang/Object;"⟩ ⟨"java/lang/Object", "clone", "()Ljava/lang/Object;"⟩, Cond.classLink RJ7 311 "[B", Cond.methodLink RJ7 339 yJ7_copyOfRangeByte_39247, Cond.static yJ7_copyOfRangeByte_39247, Cond.code yJ7_copyOfRangeByte_39247 cJ7_copyOfRangeByte_39247 5 (some (.array .byte)), Cond.arrayClass .byte, Cond.methodLink RJ7 304 Lib.Math.min.name]
def wsJ0_init_db425_r3 : List Cond := [Cond.static Lib.Math.min.name, Cond.initialized "java/lang/Math", Cond.code Lib.Math.min.name Lib.Math.min.code 2 (some .int), Cond.methodLink RJ7 150 arraycopyName, Cond.native arraycopyName, Cond.static arraycopyName, Cond.initialized "java/lang/System", Cond.methodLink RJ7 343 yJ7_checkLength_df160, Cond.static yJ7_checkLength_df160, Cond.code yJ7_checkLength_df160 cJ7_checkLength_df160 2 none, Cond.classLink RJ7 45 RJ4, Cond.instantiable RJ4 4, Cond.methodLink RJ0 1051 yJ2_compress_39247, Cond.static yJ2_compress_39247, Cond.initialized RJ2, Cond.code yJ2_compress_39247 cJ2_compress_39247 6 (some (.array .byte)), Cond.methodLink RJ2 123 yJ2_compress_5af95, Cond.static yJ2_compress_5af95, Cond.code yJ2_compress_5af95 cJ2_compress_5af95 7 (some .int), Cond.methodLink RJ2 173 yJ2_checkBoundsOffCount_d044e, Cond.static yJ2_checkBoundsOffCount_d044e, Cond.code yJ2_checkBoundsOffCount_d044e cJ2_checkBoundsOffCount_d044e 3 none, Cond.methodLink RJ2 48 yJ2_length_9d52b, Cond.static yJ2_length_9d52b]
def wsJ0_init_db425_r4 : List Cond := [Cond.code yJ2_length_9d52b cJ2_length_9d52b 1 (some .int), Cond.methodLink RJ2 419 yJ0_checkBoundsOffCount_cabcc, Cond.static yJ0_checkBoundsOffCount_cabcc, Cond.initialized RJ0, Cond.code yJ0_checkBoundsOffCount_cabcc cJ0_checkBoundsOffCount_cabcc 3 (some .int), Cond.fieldLink RJ0 1053 "jdk/internal/util/Preconditions" "SIOOBE_FORMATTER" "Ljava/util/function/BiFunction;", Cond.methodLink RJ0 1065 yJ3_checkFromIndexSize_8c36e, Cond.static yJ3_checkFromIndexSize_8c36e, Cond.initialized RJ3, Cond.code yJ3_checkFromIndexSize_8c36e cJ3_checkFromIndexSize_8c36e 4 (some .int), Cond.methodLink RJ2 71 yJ2_getChar_3b067, Cond.static yJ2_getChar_3b067, Cond.code yJ2_getChar_3b067 cJ2_getChar_3b067 2 (some .char), Cond.fieldLink RJ2 44 "java/lang/StringUTF16" "$assertionsDisabled" "Z", Cond.fieldLink RJ2 59 "java/lang/StringUTF16" "HI_BYTE_SHIFT" "I", Cond.fieldLink RJ2 63 "java/lang/StringUTF16" "LO_BYTE_SHIFT" "I", Cond.methodLink RJ2 11 yJ2_newBytesLength_0f7a4, Cond.static yJ2_newBytesLength_0f7a4, Cond.code yJ2_newBytesLength_0f7a4 cJ2_newBytesLength_0f7a4 1 (some .int), Cond.constant RJ2 20 (1073741823), Cond.methodLink RJ2 126 yJ7_copyOfRange_39247, Cond.methodLink RJ0 47 yJ2_coderFromArrayLen_85cad, Cond.static yJ2_coderFromArrayLen_85cad, Cond.code yJ2_coderFromArrayLen_85cad cJ2_coderFromArrayLen_85cad 2 (some .byte)]
def wsJ0_init_db425 : List Cond := .code yJ0_init_db425 cJ0_init_db425 5 none :: ((wsJ0_init_db425_r1 ++ (wsJ0_init_db425_r2 ++ (wsJ0_init_db425_r3 ++ wsJ0_init_db425_r4))) ++ wsJ00 ++ wsJ40)
def wsJ0_init_81219_r1 : List Cond := [Cond.methodLink RJ0 489 yJ0_init_db425, Cond.instanceMethod yJ0_init_db425, Cond.initialized RJ0, Cond.code yJ0_init_db425 cJ0_init_db425 5 none, Cond.methodLink RJ0 1 objectInit, Cond.instanceMethod objectInit, Cond.code objectInit ⟨#[0xb1]⟩ 1 none, Cond.fieldLink RJ0 15 "java/lang/String" "coder" "B", Cond.fieldLink RJ0 9 "java/lang/String" "value" "[B", Cond.fieldLink RJ0 38 "java/lang/String" "COMPACT_STRINGS" "Z", Cond.fieldLink RJ0 1048 "java/lang/AbstractStringBuilder" "maybeLatin1" "Z", Cond.methodLink RJ0 552 ⟨"java/lang/AbstractStringBuilder", "getValue", "()[B"⟩, Cond.sameMethod "java/lang/AbstractStringBuilder" "java/lang/AbstractStringBuilder" "getValue" "()[B", Cond.selects RJ4 ⟨"java/lang/AbstractStringBuilder", "getValue", "()[B"⟩ yJ5_getValue_6d5f1, Cond.instanceMethod yJ5_getValue_6d5f1, Cond.initialized RJ5, Cond.code yJ5_getValue_6d5f1 cJ5_getValue_6d5f1 1 (some (.array .byte)), Cond.fieldLink RJ5 15 "java/lang/AbstractStringBuilder" "value" "[B", Cond.methodLink RJ0 549 ⟨"java/lang/AbstractStringBuilder", "length", "()I"⟩, Cond.sameMethod "java/lang/AbstractStringBuilder" "java/lang/AbstractStringBuilder" "length" "()I", Cond.instanceMethod ⟨"java/lang/AbstractStringBuilder", "length", "()I"⟩, Cond.selects RJ4 ⟨"java/lang/AbstractStringBuilder", "length", "()I"⟩ yJ4_length_8abf5, Cond.instanceMethod yJ4_length_8abf5, Cond.initialized RJ4]
def wsJ0_init_81219_r2 : List Cond := [Cond.code yJ4_length_8abf5 cJ4_length_8abf5 1 (some .int), Cond.methodLink RJ4 343 yJ5_length_8abf5, Cond.superclass RJ4 RJ5, Cond.instanceMethod yJ5_length_8abf5, Cond.code yJ5_length_8abf5 cJ5_length_8abf5 1 (some .int), Cond.fieldLink RJ5 79 "java/lang/AbstractStringBuilder" "count" "I", Cond.methodLink RJ0 1047 ⟨"java/lang/AbstractStringBuilder", "isLatin1", "()Z"⟩, Cond.sameMethod "java/lang/AbstractStringBuilder" "java/lang/AbstractStringBuilder" "isLatin1" "()Z", Cond.selects RJ4 ⟨"java/lang/AbstractStringBuilder", "isLatin1", "()Z"⟩ yJ5_isLatin1_aae02, Cond.instanceMethod yJ5_isLatin1_aae02, Cond.code yJ5_isLatin1_aae02 cJ5_isLatin1_aae02 1 (some .boolean), Cond.fieldLink RJ5 18 "java/lang/String" "COMPACT_STRINGS" "Z", Cond.fieldLink RJ5 22 "java/lang/AbstractStringBuilder" "coder" "B", Cond.methodLink RJ0 54 yJ7_copyOfRange_39247, Cond.static yJ7_copyOfRange_39247, Cond.initialized RJ7, Cond.code yJ7_copyOfRange_39247 cJ7_copyOfRange_39247 3 (some (.array .byte)), Cond.methodLink RJ7 310 ⟨"[B", "clone", "()Ljava/lang/Object;"⟩, Cond.sameMethod "[B" "java/lang/Object" "clone" "()Ljava/lang/Object;", Cond.native ⟨"java/lang/Object", "clone", "()Ljava/lang/Object;"⟩, Cond.instanceMethod ⟨"java/lang/Object", "clone", "()Ljava/lang/Object;"⟩, Cond.selects "[B" ⟨"[B", "clone", "()Ljava/lang/Object;"⟩ ⟨"java/lang/Object", "clone", "()Ljava/lang/Object;"⟩, Cond.classLink RJ7 311 "[B", Cond.methodLink RJ7 339 yJ7_copyOfRangeByte_39247]
def wsJ0_init_81219_r3 : List Cond := [Cond.static yJ7_copyOfRangeByte_39247, Cond.code yJ7_copyOfRangeByte_39247 cJ7_copyOfRangeByte_39247 5 (some (.array .byte)), Cond.arrayClass .byte, Cond.methodLink RJ7 304 Lib.Math.min.name, Cond.static Lib.Math.min.name, Cond.initialized "java/lang/Math", Cond.code Lib.Math.min.name Lib.Math.min.code 2 (some .int), Cond.methodLink RJ7 150 arraycopyName, Cond.native arraycopyName, Cond.static arraycopyName, Cond.initialized "java/lang/System", Cond.methodLink RJ7 343 yJ7_checkLength_df160, Cond.static yJ7_checkLength_df160, Cond.code yJ7_checkLength_df160 cJ7_checkLength_df160 2 none, Cond.classLink RJ7 45 RJ4, Cond.instantiable RJ4 4, Cond.methodLink RJ0 1051 yJ2_compress_39247, Cond.static yJ2_compress_39247, Cond.initialized RJ2, Cond.code yJ2_compress_39247 cJ2_compress_39247 6 (some (.array .byte)), Cond.methodLink RJ2 123 yJ2_compress_5af95, Cond.static yJ2_compress_5af95, Cond.code yJ2_compress_5af95 cJ2_compress_5af95 7 (some .int), Cond.methodLink RJ2 173 yJ2_checkBoundsOffCount_d044e]
def wsJ0_init_81219_r4 : List Cond := [Cond.static yJ2_checkBoundsOffCount_d044e, Cond.code yJ2_checkBoundsOffCount_d044e cJ2_checkBoundsOffCount_d044e 3 none, Cond.methodLink RJ2 48 yJ2_length_9d52b, Cond.static yJ2_length_9d52b, Cond.code yJ2_length_9d52b cJ2_length_9d52b 1 (some .int), Cond.methodLink RJ2 419 yJ0_checkBoundsOffCount_cabcc, Cond.static yJ0_checkBoundsOffCount_cabcc, Cond.code yJ0_checkBoundsOffCount_cabcc cJ0_checkBoundsOffCount_cabcc 3 (some .int), Cond.fieldLink RJ0 1053 "jdk/internal/util/Preconditions" "SIOOBE_FORMATTER" "Ljava/util/function/BiFunction;", Cond.methodLink RJ0 1065 yJ3_checkFromIndexSize_8c36e, Cond.static yJ3_checkFromIndexSize_8c36e, Cond.initialized RJ3, Cond.code yJ3_checkFromIndexSize_8c36e cJ3_checkFromIndexSize_8c36e 4 (some .int), Cond.methodLink RJ2 71 yJ2_getChar_3b067, Cond.static yJ2_getChar_3b067, Cond.code yJ2_getChar_3b067 cJ2_getChar_3b067 2 (some .char), Cond.fieldLink RJ2 44 "java/lang/StringUTF16" "$assertionsDisabled" "Z", Cond.fieldLink RJ2 59 "java/lang/StringUTF16" "HI_BYTE_SHIFT" "I", Cond.fieldLink RJ2 63 "java/lang/StringUTF16" "LO_BYTE_SHIFT" "I", Cond.methodLink RJ2 11 yJ2_newBytesLength_0f7a4, Cond.static yJ2_newBytesLength_0f7a4, Cond.code yJ2_newBytesLength_0f7a4 cJ2_newBytesLength_0f7a4 1 (some .int), Cond.constant RJ2 20 (1073741823), Cond.methodLink RJ2 126 yJ7_copyOfRange_39247]
def wsJ0_init_81219_r5 : List Cond := [Cond.methodLink RJ0 47 yJ2_coderFromArrayLen_85cad, Cond.static yJ2_coderFromArrayLen_85cad, Cond.code yJ2_coderFromArrayLen_85cad cJ2_coderFromArrayLen_85cad 2 (some .byte)]
def wsJ0_init_81219 : List Cond := .code yJ0_init_81219 cJ0_init_81219 2 none :: ((wsJ0_init_81219_r1 ++ (wsJ0_init_81219_r2 ++ (wsJ0_init_81219_r3 ++ (wsJ0_init_81219_r4 ++ wsJ0_init_81219_r5)))) ++ wsJ00 ++ wsJ40)
def wsJ4_toString_0e30d_r1 : List Cond := [Cond.classLink RJ4 18 RJ0, Cond.instantiable RJ0 4, Cond.initialized RJ0, Cond.methodLink RJ4 137 yJ0_init_81219, Cond.instanceMethod yJ0_init_81219, Cond.code yJ0_init_81219 cJ0_init_81219 2 none, Cond.methodLink RJ0 489 yJ0_init_db425, Cond.instanceMethod yJ0_init_db425, Cond.code yJ0_init_db425 cJ0_init_db425 5 none, Cond.methodLink RJ0 1 objectInit, Cond.instanceMethod objectInit, Cond.code objectInit ⟨#[0xb1]⟩ 1 none, Cond.fieldLink RJ0 15 "java/lang/String" "coder" "B", Cond.fieldLink RJ0 9 "java/lang/String" "value" "[B", Cond.fieldLink RJ0 38 "java/lang/String" "COMPACT_STRINGS" "Z", Cond.fieldLink RJ0 1048 "java/lang/AbstractStringBuilder" "maybeLatin1" "Z", Cond.methodLink RJ0 552 ⟨"java/lang/AbstractStringBuilder", "getValue", "()[B"⟩, Cond.sameMethod "java/lang/AbstractStringBuilder" "java/lang/AbstractStringBuilder" "getValue" "()[B", Cond.selects RJ4 ⟨"java/lang/AbstractStringBuilder", "getValue", "()[B"⟩ yJ5_getValue_6d5f1, Cond.instanceMethod yJ5_getValue_6d5f1, Cond.initialized RJ5, Cond.code yJ5_getValue_6d5f1 cJ5_getValue_6d5f1 1 (some (.array .byte)), Cond.fieldLink RJ5 15 "java/lang/AbstractStringBuilder" "value" "[B", Cond.methodLink RJ0 549 ⟨"java/lang/AbstractStringBuilder", "length", "()I"⟩]
def wsJ4_toString_0e30d_r2 : List Cond := [Cond.sameMethod "java/lang/AbstractStringBuilder" "java/lang/AbstractStringBuilder" "length" "()I", Cond.instanceMethod ⟨"java/lang/AbstractStringBuilder", "length", "()I"⟩, Cond.selects RJ4 ⟨"java/lang/AbstractStringBuilder", "length", "()I"⟩ yJ4_length_8abf5, Cond.instanceMethod yJ4_length_8abf5, Cond.initialized RJ4, Cond.code yJ4_length_8abf5 cJ4_length_8abf5 1 (some .int), Cond.methodLink RJ4 343 yJ5_length_8abf5, Cond.superclass RJ4 RJ5, Cond.instanceMethod yJ5_length_8abf5, Cond.code yJ5_length_8abf5 cJ5_length_8abf5 1 (some .int), Cond.fieldLink RJ5 79 "java/lang/AbstractStringBuilder" "count" "I", Cond.methodLink RJ0 1047 ⟨"java/lang/AbstractStringBuilder", "isLatin1", "()Z"⟩, Cond.sameMethod "java/lang/AbstractStringBuilder" "java/lang/AbstractStringBuilder" "isLatin1" "()Z", Cond.selects RJ4 ⟨"java/lang/AbstractStringBuilder", "isLatin1", "()Z"⟩ yJ5_isLatin1_aae02, Cond.instanceMethod yJ5_isLatin1_aae02, Cond.code yJ5_isLatin1_aae02 cJ5_isLatin1_aae02 1 (some .boolean), Cond.fieldLink RJ5 18 "java/lang/String" "COMPACT_STRINGS" "Z", Cond.fieldLink RJ5 22 "java/lang/AbstractStringBuilder" "coder" "B", Cond.methodLink RJ0 54 yJ7_copyOfRange_39247, Cond.static yJ7_copyOfRange_39247, Cond.initialized RJ7, Cond.code yJ7_copyOfRange_39247 cJ7_copyOfRange_39247 3 (some (.array .byte)), Cond.methodLink RJ7 310 ⟨"[B", "clone", "()Ljava/lang/Object;"⟩, Cond.sameMethod "[B" "java/lang/Object" "clone" "()Ljava/lang/Object;"]
def wsJ4_toString_0e30d_r3 : List Cond := [Cond.native ⟨"java/lang/Object", "clone", "()Ljava/lang/Object;"⟩, Cond.instanceMethod ⟨"java/lang/Object", "clone", "()Ljava/lang/Object;"⟩, Cond.selects "[B" ⟨"[B", "clone", "()Ljava/lang/Object;"⟩ ⟨"java/lang/Object", "clone", "()Ljava/lang/Object;"⟩, Cond.classLink RJ7 311 "[B", Cond.methodLink RJ7 339 yJ7_copyOfRangeByte_39247, Cond.static yJ7_copyOfRangeByte_39247, Cond.code yJ7_copyOfRangeByte_39247 cJ7_copyOfRangeByte_39247 5 (some (.array .byte)), Cond.arrayClass .byte, Cond.methodLink RJ7 304 Lib.Math.min.name, Cond.static Lib.Math.min.name, Cond.initialized "java/lang/Math", Cond.code Lib.Math.min.name Lib.Math.min.code 2 (some .int), Cond.methodLink RJ7 150 arraycopyName, Cond.native arraycopyName, Cond.static arraycopyName, Cond.initialized "java/lang/System", Cond.methodLink RJ7 343 yJ7_checkLength_df160, Cond.static yJ7_checkLength_df160, Cond.code yJ7_checkLength_df160 cJ7_checkLength_df160 2 none, Cond.classLink RJ7 45 RJ4, Cond.instantiable RJ4 4, Cond.methodLink RJ0 1051 yJ2_compress_39247, Cond.static yJ2_compress_39247, Cond.initialized RJ2]
def wsJ4_toString_0e30d_r4 : List Cond := [Cond.code yJ2_compress_39247 cJ2_compress_39247 6 (some (.array .byte)), Cond.methodLink RJ2 123 yJ2_compress_5af95, Cond.static yJ2_compress_5af95, Cond.code yJ2_compress_5af95 cJ2_compress_5af95 7 (some .int), Cond.methodLink RJ2 173 yJ2_checkBoundsOffCount_d044e, Cond.static yJ2_checkBoundsOffCount_d044e, Cond.code yJ2_checkBoundsOffCount_d044e cJ2_checkBoundsOffCount_d044e 3 none, Cond.methodLink RJ2 48 yJ2_length_9d52b, Cond.static yJ2_length_9d52b, Cond.code yJ2_length_9d52b cJ2_length_9d52b 1 (some .int), Cond.methodLink RJ2 419 yJ0_checkBoundsOffCount_cabcc, Cond.static yJ0_checkBoundsOffCount_cabcc, Cond.code yJ0_checkBoundsOffCount_cabcc cJ0_checkBoundsOffCount_cabcc 3 (some .int), Cond.fieldLink RJ0 1053 "jdk/internal/util/Preconditions" "SIOOBE_FORMATTER" "Ljava/util/function/BiFunction;", Cond.methodLink RJ0 1065 yJ3_checkFromIndexSize_8c36e, Cond.static yJ3_checkFromIndexSize_8c36e, Cond.initialized RJ3, Cond.code yJ3_checkFromIndexSize_8c36e cJ3_checkFromIndexSize_8c36e 4 (some .int), Cond.methodLink RJ2 71 yJ2_getChar_3b067, Cond.static yJ2_getChar_3b067, Cond.code yJ2_getChar_3b067 cJ2_getChar_3b067 2 (some .char), Cond.fieldLink RJ2 44 "java/lang/StringUTF16" "$assertionsDisabled" "Z", Cond.fieldLink RJ2 59 "java/lang/StringUTF16" "HI_BYTE_SHIFT" "I", Cond.fieldLink RJ2 63 "java/lang/StringUTF16" "LO_BYTE_SHIFT" "I"]
def wsJ4_toString_0e30d_r5 : List Cond := [Cond.methodLink RJ2 11 yJ2_newBytesLength_0f7a4, Cond.static yJ2_newBytesLength_0f7a4, Cond.code yJ2_newBytesLength_0f7a4 cJ2_newBytesLength_0f7a4 1 (some .int), Cond.constant RJ2 20 (1073741823), Cond.methodLink RJ2 126 yJ7_copyOfRange_39247, Cond.methodLink RJ0 47 yJ2_coderFromArrayLen_85cad, Cond.static yJ2_coderFromArrayLen_85cad, Cond.code yJ2_coderFromArrayLen_85cad cJ2_coderFromArrayLen_85cad 2 (some .byte)]
def wsJ4_toString_0e30d : List Cond := .code yJ4_toString_0e30d cJ4_toString_0e30d 1 (some (.object "java/lang/String")) :: ((wsJ4_toString_0e30d_r1 ++ (wsJ4_toString_0e30d_r2 ++ (wsJ4_toString_0e30d_r3 ++ (wsJ4_toString_0e30d_r4 ++ wsJ4_toString_0e30d_r5)))) ++ wsJ00 ++ wsJ40)
def wsJx00060_init_d00df_r1 : List Cond := [Cond.classLink RJx00060 10 RJ4, Cond.instantiable RJ4 4, Cond.initialized RJ4, Cond.methodLink RJx00060 12 yJ4_init_da8c8, Cond.instanceMethod yJ4_init_da8c8, Cond.code yJ4_init_da8c8 cJ4_init_da8c8 1 none, Cond.methodLink RJ4 1 yJ5_init_d00df, Cond.instanceMethod yJ5_init_d00df, Cond.initialized RJ5, Cond.code yJ5_init_d00df cJ5_init_d00df 2 none, Cond.methodLink RJ5 3 objectInit, Cond.instanceMethod objectInit, Cond.code objectInit ⟨#[0xb1]⟩ 1 none, Cond.fieldLink RJ5 18 "java/lang/String" "COMPACT_STRINGS" "Z", Cond.arrayClass .byte, Cond.fieldLink RJ5 15 "java/lang/AbstractStringBuilder" "value" "[B", Cond.fieldLink RJ5 22 "java/lang/AbstractStringBuilder" "coder" "B", Cond.methodLink RJ5 26 yJ2_newBytesFor_77867, Cond.static yJ2_newBytesFor_77867, Cond.initialized RJ2, Cond.code yJ2_newBytesFor_77867 cJ2_newBytesFor_77867 1 (some (.array .byte)), Cond.methodLink RJ2 11 yJ2_newBytesLength_0f7a4, Cond.static yJ2_newBytesLength_0f7a4, Cond.code yJ2_newBytesLength_0f7a4 cJ2_newBytesLength_0f7a4 1 (some .int)]
def wsJx00060_init_d00df_r2 : List Cond := [Cond.constant RJ2 20 (1073741823), Cond.methodLink RJx00060 15 yJ4_append_15ec4, Cond.instanceMethod yJ4_append_15ec4, Cond.selects RJ4 yJ4_append_15ec4 yJ4_append_15ec4, Cond.code yJ4_append_15ec4 cJ4_append_15ec4 2 (some (.object "java/lang/StringBuilder")), Cond.methodLink RJ4 29 yJ5_append_cf1ce, Cond.sameMethod "java/lang/AbstractStringBuilder" "java/lang/AbstractStringBuilder" "append" "(Ljava/lang/String;)Ljava/lang/AbstractStringBuilder;", Cond.superclass RJ4 RJ5, Cond.instanceMethod yJ5_append_cf1ce, Cond.code yJ5_append_cf1ce cJ5_append_cf1ce 3 (some (.object "java/lang/AbstractStringBuilder")), Cond.fieldLink RJ5 79 "java/lang/AbstractStringBuilder" "count" "I", Cond.methodLink RJ5 204 ⟨"java/lang/AbstractStringBuilder", "appendNull", "()Ljava/lang/AbstractStringBuilder;"⟩, Cond.sameMethod "java/lang/AbstractStringBuilder" "java/lang/AbstractStringBuilder" "appendNull" "()Ljava/lang/AbstractStringBuilder;", Cond.selects RJ4 ⟨"java/lang/AbstractStringBuilder", "appendNull", "()Ljava/lang/AbstractStringBuilder;"⟩ yJ5_appendNull_278bc, Cond.instanceMethod yJ5_appendNull_278bc, Cond.code yJ5_appendNull_278bc cJ5_appendNull_278bc 3 (some (.object "java/lang/AbstractStringBuilder")), Cond.methodLink RJ5 100 ⟨"java/lang/AbstractStringBuilder", "ensureCapacityInternal", "(I)V"⟩, Cond.sameMethod "java/lang/AbstractStringBuilder" "java/lang/AbstractStringBuilder" "ensureCapacityInternal" "(I)V", Cond.selects RJ4 ⟨"java/lang/AbstractStringBuilder", "ensureCapacityInternal", "(I)V"⟩ yJ5_ensureCapacityInternal_d00df, Cond.instanceMethod yJ5_ensureCapacityInternal_d00df, Cond.code yJ5_ensureCapacityInternal_d00df cJ5_ensureCapacityInternal_d00df 3 none, Cond.methodLink RJ5 104 ⟨"java/lang/AbstractStringBuilder", "newCapacity", "(I)I"⟩, Cond.sameMethod "java/lang/AbstractStringBuilder" "java/lang/AbstractStringBuilder" "newCapacity" "(I)I", Cond.selects RJ4 ⟨"java/lang/AbstractStringBuilder", "newCapacity", "(I)I"⟩ yJ5_newCapacity_0f7a4]
def wsJx00060_init_d00df_r3 : List Cond := [Cond.instanceMethod yJ5_newCapacity_0f7a4, Cond.code yJ5_newCapacity_0f7a4 cJ5_newCapacity_0f7a4 6 (some .int), Cond.constant RJ5 39 (2147483647), Cond.methodLink RJ5 114 yJ8_newLength_cabcc, Cond.static yJ8_newLength_cabcc, Cond.initialized RJ8, Cond.code yJ8_newLength_cabcc cJ8_newLength_cabcc 4 (some .int), Cond.methodLink RJ8 194 Lib.Math.max.name, Cond.static Lib.Math.max.name, Cond.initialized "java/lang/Math", Cond.code Lib.Math.max.name Lib.Math.max.code 2 (some .int), Cond.constant RJ8 200 (2147483639), Cond.methodLink RJ8 201 yJ8_hugeLength_7cf53, Cond.static yJ8_hugeLength_7cf53, Cond.code yJ8_hugeLength_7cf53 cJ8_hugeLength_7cf53 3 (some .int), Cond.methodLink RJ5 108 yJ7_copyOf_9075b, Cond.static yJ7_copyOf_9075b, Cond.initialized RJ7, Cond.code yJ7_copyOf_9075b cJ7_copyOf_9075b 3 (some (.array .byte)), Cond.methodLink RJ7 310 ⟨"[B", "clone", "()Ljava/lang/Object;"⟩, Cond.sameMethod "[B" "java/lang/Object" "clone" "()Ljava/lang/Object;", Cond.native ⟨"java/lang/Object", "clone", "()Ljava/lang/Object;"⟩, Cond.instanceMethod ⟨"java/lang/Object", "clone", "()Ljava/lang/Object;"⟩, Cond.selects "[B" ⟨"[B", "clone", "()Ljava/lang/Object;"⟩ ⟨"java/lang/Object", "clone", "()Ljava/lang/Object;"⟩]
def wsJx00060_init_d00df_r4 : List Cond := [Cond.classLink RJ7 311 "[B", Cond.methodLink RJ7 304 Lib.Math.min.name, Cond.static Lib.Math.min.name, Cond.code Lib.Math.min.name Lib.Math.min.code 2 (some .int), Cond.methodLink RJ7 150 arraycopyName, Cond.native arraycopyName, Cond.static arraycopyName, Cond.initialized "java/lang/System", Cond.methodLink RJ5 83 ⟨"java/lang/AbstractStringBuilder", "isLatin1", "()Z"⟩, Cond.sameMethod "java/lang/AbstractStringBuilder" "java/lang/AbstractStringBuilder" "isLatin1" "()Z", Cond.selects RJ4 ⟨"java/lang/AbstractStringBuilder", "isLatin1", "()Z"⟩ yJ5_isLatin1_aae02, Cond.instanceMethod yJ5_isLatin1_aae02, Cond.code yJ5_isLatin1_aae02 cJ5_isLatin1_aae02 1 (some .boolean), Cond.methodLink RJ5 226 yJ2_putCharsAt_cd4e5, Cond.static yJ2_putCharsAt_cd4e5, Cond.code yJ2_putCharsAt_cd4e5 cJ2_putCharsAt_cd4e5 7 (some .int), Cond.fieldLink RJ2 44 "java/lang/StringUTF16" "$assertionsDisabled" "Z", Cond.methodLink RJ2 96 yJ2_checkBoundsBeginEnd_d044e, Cond.static yJ2_checkBoundsBeginEnd_d044e, Cond.code yJ2_checkBoundsBeginEnd_d044e cJ2_checkBoundsBeginEnd_d044e 3 none, Cond.methodLink RJ2 48 yJ2_length_9d52b, Cond.static yJ2_length_9d52b, Cond.code yJ2_length_9d52b cJ2_length_9d52b 1 (some .int), Cond.methodLink RJ2 241 yJ0_checkBoundsBeginEnd_23922]
def wsJx00060_init_d00df_r5 : List Cond := [Cond.static yJ0_checkBoundsBeginEnd_23922, Cond.initialized RJ0, Cond.code yJ0_checkBoundsBeginEnd_23922 cJ0_checkBoundsBeginEnd_23922 3 none, Cond.fieldLink RJ0 1053 "jdk/internal/util/Preconditions" "SIOOBE_FORMATTER" "Ljava/util/function/BiFunction;", Cond.methodLink RJ0 1062 yJ3_checkFromToIndex_8c36e, Cond.static yJ3_checkFromToIndex_8c36e, Cond.initialized RJ3, Cond.code yJ3_checkFromToIndex_8c36e cJ3_checkFromToIndex_8c36e 4 (some .int), Cond.methodLink RJ2 111 yJ2_putChar_b72d1, Cond.static yJ2_putChar_b72d1, Cond.code yJ2_putChar_b72d1 cJ2_putChar_b72d1 3 none, Cond.fieldLink RJ2 59 "java/lang/StringUTF16" "HI_BYTE_SHIFT" "I", Cond.fieldLink RJ2 63 "java/lang/StringUTF16" "LO_BYTE_SHIFT" "I", Cond.methodLink RJ5 32 yJ0_length_8abf5, Cond.instanceMethod yJ0_length_8abf5, Cond.selects RJ0 yJ0_length_8abf5 yJ0_length_8abf5, Cond.code yJ0_length_8abf5 cJ0_length_8abf5 1 (some .int), Cond.fieldLink RJ0 9 "java/lang/String" "value" "[B", Cond.methodLink RJ0 335 yJ0_coder_7d493, Cond.instanceMethod yJ0_coder_7d493, Cond.selects RJ0 yJ0_coder_7d493 yJ0_coder_7d493, Cond.code yJ0_coder_7d493 cJ0_coder_7d493 1 (some .byte), Cond.fieldLink RJ0 38 "java/lang/String" "COMPACT_STRINGS" "Z", Cond.fieldLink RJ0 15 "java/lang/String" "coder" "B"]
def wsJx00060_init_d00df_r6 : List Cond := [Cond.methodLink RJ5 208 ⟨"java/lang/AbstractStringBuilder", "putStringAt", "(ILjava/lang/String;)V"⟩, Cond.sameMethod "java/lang/AbstractStringBuilder" "java/lang/AbstractStringBuilder" "putStringAt" "(ILjava/lang/String;)V", Cond.selects RJ4 ⟨"java/lang/AbstractStringBuilder", "putStringAt", "(ILjava/lang/String;)V"⟩ yJ5_putStringAt_47b60, Cond.instanceMethod yJ5_putStringAt_47b60, Cond.code yJ5_putStringAt_47b60 cJ5_putStringAt_47b60 3 none, Cond.methodLink RJ5 397 ⟨"java/lang/AbstractStringBuilder", "inflateIfNeededFor", "(Ljava/lang/String;)V"⟩, Cond.sameMethod "java/lang/AbstractStringBuilder" "java/lang/AbstractStringBuilder" "inflateIfNeededFor" "(Ljava/lang/String;)V", Cond.selects RJ4 ⟨"java/lang/AbstractStringBuilder", "inflateIfNeededFor", "(Ljava/lang/String;)V"⟩ yJ5_inflateIfNeededFor_a7421, Cond.instanceMethod yJ5_inflateIfNeededFor_a7421, Cond.code yJ5_inflateIfNeededFor_a7421 cJ5_inflateIfNeededFor_a7421 2 none, Cond.methodLink RJ5 40 yJ0_coder_7d493, Cond.methodLink RJ5 195 ⟨"java/lang/AbstractStringBuilder", "inflate", "()V"⟩, Cond.sameMethod "java/lang/AbstractStringBuilder" "java/lang/AbstractStringBuilder" "inflate" "()V", Cond.selects RJ4 ⟨"java/lang/AbstractStringBuilder", "inflate", "()V"⟩ yJ5_inflate_da8c8, Cond.instanceMethod yJ5_inflate_da8c8, Cond.code yJ5_inflate_da8c8 cJ5_inflate_da8c8 2 none, Cond.methodLink RJ5 125 yJ1_inflate_0e8fd, Cond.static yJ1_inflate_0e8fd, Cond.initialized RJ1, Cond.code yJ1_inflate_0e8fd cJ1_inflate_0e8fd 5 none, Cond.methodLink RJ1 240 yJ2_inflate_0e8fd, Cond.static yJ2_inflate_0e8fd, Cond.code yJ2_inflate_0e8fd cJ2_inflate_0e8fd 6 none, Cond.methodLink RJ2 173 yJ2_checkBoundsOffCount_d044e]
def wsJx00060_init_d00df_r7 : List Cond := [Cond.static yJ2_checkBoundsOffCount_d044e, Cond.code yJ2_checkBoundsOffCount_d044e cJ2_checkBoundsOffCount_d044e 3 none, Cond.methodLink RJ2 419 yJ0_checkBoundsOffCount_cabcc, Cond.static yJ0_checkBoundsOffCount_cabcc, Cond.code yJ0_checkBoundsOffCount_cabcc cJ0_checkBoundsOffCount_cabcc 3 (some .int), Cond.methodLink RJ0 1065 yJ3_checkFromIndexSize_8c36e, Cond.static yJ3_checkFromIndexSize_8c36e, Cond.code yJ3_checkFromIndexSize_8c36e cJ3_checkFromIndexSize_8c36e 4 (some .int), Cond.methodLink RJ5 399 yJ0_getBytes_840e7, Cond.instanceMethod yJ0_getBytes_840e7, Cond.selects RJ0 yJ0_getBytes_840e7 yJ0_getBytes_840e7, Cond.code yJ0_getBytes_840e7 cJ0_getBytes_840e7 4 none, Cond.methodLink RJ0 212 arraycopyName, Cond.methodLink RJ0 106 yJ1_inflate_0e8fd, Cond.methodLink RJx00060 19 yJ4_append_bf812, Cond.instanceMethod yJ4_append_bf812, Cond.selects RJ4 yJ4_append_bf812 yJ4_append_bf812, Cond.code yJ4_append_bf812 cJ4_append_bf812 2 (some (.object "java/lang/StringBuilder")), Cond.methodLink RJ4 53 yJ5_append_c97b9, Cond.sameMethod "java/lang/AbstractStringBuilder" "java/lang/AbstractStringBuilder" "append" "(I)Ljava/lang/AbstractStringBuilder;", Cond.instanceMethod yJ5_append_c97b9, Cond.code yJ5_append_c97b9 cJ5_append_c97b9 4 (some (.object "java/lang/AbstractStringBuilder")), Cond.methodLink RJ5 245 yJ6_stringSize_0f7a4, Cond.static yJ6_stringSize_0f7a4]
def wsJx00060_init_d00df_r8 : List Cond := [Cond.initialized RJ6, Cond.code yJ6_stringSize_0f7a4 cJ6_stringSize_0f7a4 4 (some .int), Cond.methodLink RJ5 248 yJ6_getChars_ba4f3, Cond.static yJ6_getChars_ba4f3, Cond.code yJ6_getChars_ba4f3 cJ6_getChars_ba4f3 7 (some .int), Cond.fieldLink RJ6 83 "java/lang/Integer" "DigitOnes" "[B", Cond.fieldLink RJ6 87 "java/lang/Integer" "DigitTens" "[B", Cond.methodLink RJ5 251 yJ2_getChars_46870, Cond.static yJ2_getChars_46870, Cond.code yJ2_getChars_46870 cJ2_getChars_46870 5 (some .int), Cond.methodLink RJ2 393 yJ2_getChars_ba4f3, Cond.static yJ2_getChars_ba4f3, Cond.code yJ2_getChars_ba4f3 cJ2_getChars_ba4f3 7 (some .int), Cond.fieldLink RJ2 403 "java/lang/Integer" "DigitOnes" "[B", Cond.fieldLink RJ2 407 "java/lang/Integer" "DigitTens" "[B", Cond.methodLink RJx00060 22 yJ4_toString_0e30d, Cond.instanceMethod yJ4_toString_0e30d, Cond.selects RJ4 yJ4_toString_0e30d yJ4_toString_0e30d, Cond.code yJ4_toString_0e30d cJ4_toString_0e30d 1 (some (.object "java/lang/String")), Cond.classLink RJ4 18 RJ0, Cond.instantiable RJ0 4, Cond.methodLink RJ4 137 yJ0_init_81219, Cond.instanceMethod yJ0_init_81219, Cond.code yJ0_init_81219 cJ0_init_81219 2 none]
def wsJx00060_init_d00df_r9 : List Cond := [Cond.methodLink RJ0 489 yJ0_init_db425, Cond.instanceMethod yJ0_init_db425, Cond.code yJ0_init_db425 cJ0_init_db425 5 none, Cond.methodLink RJ0 1 objectInit, Cond.fieldLink RJ0 1048 "java/lang/AbstractStringBuilder" "maybeLatin1" "Z", Cond.methodLink RJ0 552 ⟨"java/lang/AbstractStringBuilder", "getValue", "()[B"⟩, Cond.sameMethod "java/lang/AbstractStringBuilder" "java/lang/AbstractStringBuilder" "getValue" "()[B", Cond.selects RJ4 ⟨"java/lang/AbstractStringBuilder", "getValue", "()[B"⟩ yJ5_getValue_6d5f1, Cond.instanceMethod yJ5_getValue_6d5f1, Cond.code yJ5_getValue_6d5f1 cJ5_getValue_6d5f1 1 (some (.array .byte)), Cond.methodLink RJ0 549 ⟨"java/lang/AbstractStringBuilder", "length", "()I"⟩, Cond.sameMethod "java/lang/AbstractStringBuilder" "java/lang/AbstractStringBuilder" "length" "()I", Cond.instanceMethod ⟨"java/lang/AbstractStringBuilder", "length", "()I"⟩, Cond.selects RJ4 ⟨"java/lang/AbstractStringBuilder", "length", "()I"⟩ yJ4_length_8abf5, Cond.instanceMethod yJ4_length_8abf5, Cond.code yJ4_length_8abf5 cJ4_length_8abf5 1 (some .int), Cond.methodLink RJ4 343 yJ5_length_8abf5, Cond.instanceMethod yJ5_length_8abf5, Cond.code yJ5_length_8abf5 cJ5_length_8abf5 1 (some .int), Cond.methodLink RJ0 1047 ⟨"java/lang/AbstractStringBuilder", "isLatin1", "()Z"⟩, Cond.methodLink RJ0 54 yJ7_copyOfRange_39247, Cond.static yJ7_copyOfRange_39247, Cond.code yJ7_copyOfRange_39247 cJ7_copyOfRange_39247 3 (some (.array .byte)), Cond.methodLink RJ7 339 yJ7_copyOfRangeByte_39247]
def wsJx00060_init_d00df_r10 : List Cond := [Cond.static yJ7_copyOfRangeByte_39247, Cond.code yJ7_copyOfRangeByte_39247 cJ7_copyOfRangeByte_39247 5 (some (.array .byte)), Cond.methodLink RJ7 343 yJ7_checkLength_df160, Cond.static yJ7_checkLength_df160, Cond.code yJ7_checkLength_df160 cJ7_checkLength_df160 2 none, Cond.classLink RJ7 45 RJ4, Cond.methodLink RJ0 1051 yJ2_compress_39247, Cond.static yJ2_compress_39247, Cond.code yJ2_compress_39247 cJ2_compress_39247 6 (some (.array .byte)), Cond.methodLink RJ2 123 yJ2_compress_5af95, Cond.static yJ2_compress_5af95, Cond.code yJ2_compress_5af95 cJ2_compress_5af95 7 (some .int), Cond.methodLink RJ2 71 yJ2_getChar_3b067, Cond.static yJ2_getChar_3b067, Cond.code yJ2_getChar_3b067 cJ2_getChar_3b067 2 (some .char), Cond.methodLink RJ2 126 yJ7_copyOfRange_39247, Cond.methodLink RJ0 47 yJ2_coderFromArrayLen_85cad, Cond.static yJ2_coderFromArrayLen_85cad, Cond.code yJ2_coderFromArrayLen_85cad cJ2_coderFromArrayLen_85cad 2 (some .byte)]
def wsJx00060_init_d00df : List Cond := .code yJx00060_init_d00df cJx00060_init_d00df 2 none :: ((wsJx00060_init_d00df_r1 ++ (wsJx00060_init_d00df_r2 ++ (wsJx00060_init_d00df_r3 ++ (wsJx00060_init_d00df_r4 ++ (wsJx00060_init_d00df_r5 ++ (wsJx00060_init_d00df_r6 ++ (wsJx00060_init_d00df_r7 ++ (wsJx00060_init_d00df_r8 ++ (wsJx00060_init_d00df_r9 ++ wsJx00060_init_d00df_r10))))))))) ++ wsJ40 ++ wsJ00)
def wsJ9_max_7cf53 : List Cond := .code yJ9_max_7cf53 cJ9_max_7cf53 2 (some .int) :: ([])
def wsJ9_min_7cf53 : List Cond := .code yJ9_min_7cf53 cJ9_min_7cf53 2 (some .int) :: ([])
def wsJx7c733_init_d00df_r1 : List Cond := [Cond.classLink RJx7c733 10 RJ4, Cond.instantiable RJ4 4, Cond.initialized RJ4, Cond.methodLink RJx7c733 12 yJ4_init_da8c8, Cond.instanceMethod yJ4_init_da8c8, Cond.code yJ4_init_da8c8 cJ4_init_da8c8 1 none, Cond.methodLink RJ4 1 yJ5_init_d00df, Cond.instanceMethod yJ5_init_d00df, Cond.initialized RJ5, Cond.code yJ5_init_d00df cJ5_init_d00df 2 none, Cond.methodLink RJ5 3 objectInit, Cond.instanceMethod objectInit, Cond.code objectInit ⟨#[0xb1]⟩ 1 none, Cond.fieldLink RJ5 18 "java/lang/String" "COMPACT_STRINGS" "Z", Cond.arrayClass .byte, Cond.fieldLink RJ5 15 "java/lang/AbstractStringBuilder" "value" "[B", Cond.fieldLink RJ5 22 "java/lang/AbstractStringBuilder" "coder" "B", Cond.methodLink RJ5 26 yJ2_newBytesFor_77867, Cond.static yJ2_newBytesFor_77867, Cond.initialized RJ2, Cond.code yJ2_newBytesFor_77867 cJ2_newBytesFor_77867 1 (some (.array .byte)), Cond.methodLink RJ2 11 yJ2_newBytesLength_0f7a4, Cond.static yJ2_newBytesLength_0f7a4, Cond.code yJ2_newBytesLength_0f7a4 cJ2_newBytesLength_0f7a4 1 (some .int)]
def wsJx7c733_init_d00df_r2 : List Cond := [Cond.constant RJ2 20 (1073741823), Cond.methodLink RJx7c733 15 yJ4_append_15ec4, Cond.instanceMethod yJ4_append_15ec4, Cond.selects RJ4 yJ4_append_15ec4 yJ4_append_15ec4, Cond.code yJ4_append_15ec4 cJ4_append_15ec4 2 (some (.object "java/lang/StringBuilder")), Cond.methodLink RJ4 29 yJ5_append_cf1ce, Cond.sameMethod "java/lang/AbstractStringBuilder" "java/lang/AbstractStringBuilder" "append" "(Ljava/lang/String;)Ljava/lang/AbstractStringBuilder;", Cond.superclass RJ4 RJ5, Cond.instanceMethod yJ5_append_cf1ce, Cond.code yJ5_append_cf1ce cJ5_append_cf1ce 3 (some (.object "java/lang/AbstractStringBuilder")), Cond.fieldLink RJ5 79 "java/lang/AbstractStringBuilder" "count" "I", Cond.methodLink RJ5 204 ⟨"java/lang/AbstractStringBuilder", "appendNull", "()Ljava/lang/AbstractStringBuilder;"⟩, Cond.sameMethod "java/lang/AbstractStringBuilder" "java/lang/AbstractStringBuilder" "appendNull" "()Ljava/lang/AbstractStringBuilder;", Cond.selects RJ4 ⟨"java/lang/AbstractStringBuilder", "appendNull", "()Ljava/lang/AbstractStringBuilder;"⟩ yJ5_appendNull_278bc, Cond.instanceMethod yJ5_appendNull_278bc, Cond.code yJ5_appendNull_278bc cJ5_appendNull_278bc 3 (some (.object "java/lang/AbstractStringBuilder")), Cond.methodLink RJ5 100 ⟨"java/lang/AbstractStringBuilder", "ensureCapacityInternal", "(I)V"⟩, Cond.sameMethod "java/lang/AbstractStringBuilder" "java/lang/AbstractStringBuilder" "ensureCapacityInternal" "(I)V", Cond.selects RJ4 ⟨"java/lang/AbstractStringBuilder", "ensureCapacityInternal", "(I)V"⟩ yJ5_ensureCapacityInternal_d00df, Cond.instanceMethod yJ5_ensureCapacityInternal_d00df, Cond.code yJ5_ensureCapacityInternal_d00df cJ5_ensureCapacityInternal_d00df 3 none, Cond.methodLink RJ5 104 ⟨"java/lang/AbstractStringBuilder", "newCapacity", "(I)I"⟩, Cond.sameMethod "java/lang/AbstractStringBuilder" "java/lang/AbstractStringBuilder" "newCapacity" "(I)I", Cond.selects RJ4 ⟨"java/lang/AbstractStringBuilder", "newCapacity", "(I)I"⟩ yJ5_newCapacity_0f7a4]
def wsJx7c733_init_d00df_r3 : List Cond := [Cond.instanceMethod yJ5_newCapacity_0f7a4, Cond.code yJ5_newCapacity_0f7a4 cJ5_newCapacity_0f7a4 6 (some .int), Cond.constant RJ5 39 (2147483647), Cond.methodLink RJ5 114 yJ8_newLength_cabcc, Cond.static yJ8_newLength_cabcc, Cond.initialized RJ8, Cond.code yJ8_newLength_cabcc cJ8_newLength_cabcc 4 (some .int), Cond.methodLink RJ8 194 Lib.Math.max.name, Cond.static Lib.Math.max.name, Cond.initialized "java/lang/Math", Cond.code Lib.Math.max.name Lib.Math.max.code 2 (some .int), Cond.constant RJ8 200 (2147483639), Cond.methodLink RJ8 201 yJ8_hugeLength_7cf53, Cond.static yJ8_hugeLength_7cf53, Cond.code yJ8_hugeLength_7cf53 cJ8_hugeLength_7cf53 3 (some .int), Cond.methodLink RJ5 108 yJ7_copyOf_9075b, Cond.static yJ7_copyOf_9075b, Cond.initialized RJ7, Cond.code yJ7_copyOf_9075b cJ7_copyOf_9075b 3 (some (.array .byte)), Cond.methodLink RJ7 310 ⟨"[B", "clone", "()Ljava/lang/Object;"⟩, Cond.sameMethod "[B" "java/lang/Object" "clone" "()Ljava/lang/Object;", Cond.native ⟨"java/lang/Object", "clone", "()Ljava/lang/Object;"⟩, Cond.instanceMethod ⟨"java/lang/Object", "clone", "()Ljava/lang/Object;"⟩, Cond.selects "[B" ⟨"[B", "clone", "()Ljava/lang/Object;"⟩ ⟨"java/lang/Object", "clone", "()Ljava/lang/Object;"⟩]
def wsJx7c733_init_d00df_r4 : List Cond := [Cond.classLink RJ7 311 "[B", Cond.methodLink RJ7 304 Lib.Math.min.name, Cond.static Lib.Math.min.name, Cond.code Lib.Math.min.name Lib.Math.min.code 2 (some .int), Cond.methodLink RJ7 150 arraycopyName, Cond.native arraycopyName, Cond.static arraycopyName, Cond.initialized "java/lang/System", Cond.methodLink RJ5 83 ⟨"java/lang/AbstractStringBuilder", "isLatin1", "()Z"⟩, Cond.sameMethod "java/lang/AbstractStringBuilder" "java/lang/AbstractStringBuilder" "isLatin1" "()Z", Cond.selects RJ4 ⟨"java/lang/AbstractStringBuilder", "isLatin1", "()Z"⟩ yJ5_isLatin1_aae02, Cond.instanceMethod yJ5_isLatin1_aae02, Cond.code yJ5_isLatin1_aae02 cJ5_isLatin1_aae02 1 (some .boolean), Cond.methodLink RJ5 226 yJ2_putCharsAt_cd4e5, Cond.static yJ2_putCharsAt_cd4e5, Cond.code yJ2_putCharsAt_cd4e5 cJ2_putCharsAt_cd4e5 7 (some .int), Cond.fieldLink RJ2 44 "java/lang/StringUTF16" "$assertionsDisabled" "Z", Cond.methodLink RJ2 96 yJ2_checkBoundsBeginEnd_d044e, Cond.static yJ2_checkBoundsBeginEnd_d044e, Cond.code yJ2_checkBoundsBeginEnd_d044e cJ2_checkBoundsBeginEnd_d044e 3 none, Cond.methodLink RJ2 48 yJ2_length_9d52b, Cond.static yJ2_length_9d52b, Cond.code yJ2_length_9d52b cJ2_length_9d52b 1 (some .int), Cond.methodLink RJ2 241 yJ0_checkBoundsBeginEnd_23922]
def wsJx7c733_init_d00df_r5 : List Cond := [Cond.static yJ0_checkBoundsBeginEnd_23922, Cond.initialized RJ0, Cond.code yJ0_checkBoundsBeginEnd_23922 cJ0_checkBoundsBeginEnd_23922 3 none, Cond.fieldLink RJ0 1053 "jdk/internal/util/Preconditions" "SIOOBE_FORMATTER" "Ljava/util/function/BiFunction;", Cond.methodLink RJ0 1062 yJ3_checkFromToIndex_8c36e, Cond.static yJ3_checkFromToIndex_8c36e, Cond.initialized RJ3, Cond.code yJ3_checkFromToIndex_8c36e cJ3_checkFromToIndex_8c36e 4 (some .int), Cond.methodLink RJ2 111 yJ2_putChar_b72d1, Cond.static yJ2_putChar_b72d1, Cond.code yJ2_putChar_b72d1 cJ2_putChar_b72d1 3 none, Cond.fieldLink RJ2 59 "java/lang/StringUTF16" "HI_BYTE_SHIFT" "I", Cond.fieldLink RJ2 63 "java/lang/StringUTF16" "LO_BYTE_SHIFT" "I", Cond.methodLink RJ5 32 yJ0_length_8abf5, Cond.instanceMethod yJ0_length_8abf5, Cond.selects RJ0 yJ0_length_8abf5 yJ0_length_8abf5, Cond.code yJ0_length_8abf5 cJ0_length_8abf5 1 (some .int), Cond.fieldLink RJ0 9 "java/lang/String" "value" "[B", Cond.methodLink RJ0 335 yJ0_coder_7d493, Cond.instanceMethod yJ0_coder_7d493, Cond.selects RJ0 yJ0_coder_7d493 yJ0_coder_7d493, Cond.code yJ0_coder_7d493 cJ0_coder_7d493 1 (some .byte), Cond.fieldLink RJ0 38 "java/lang/String" "COMPACT_STRINGS" "Z", Cond.fieldLink RJ0 15 "java/lang/String" "coder" "B"]
def wsJx7c733_init_d00df_r6 : List Cond := [Cond.methodLink RJ5 208 ⟨"java/lang/AbstractStringBuilder", "putStringAt", "(ILjava/lang/String;)V"⟩, Cond.sameMethod "java/lang/AbstractStringBuilder" "java/lang/AbstractStringBuilder" "putStringAt" "(ILjava/lang/String;)V", Cond.selects RJ4 ⟨"java/lang/AbstractStringBuilder", "putStringAt", "(ILjava/lang/String;)V"⟩ yJ5_putStringAt_47b60, Cond.instanceMethod yJ5_putStringAt_47b60, Cond.code yJ5_putStringAt_47b60 cJ5_putStringAt_47b60 3 none, Cond.methodLink RJ5 397 ⟨"java/lang/AbstractStringBuilder", "inflateIfNeededFor", "(Ljava/lang/String;)V"⟩, Cond.sameMethod "java/lang/AbstractStringBuilder" "java/lang/AbstractStringBuilder" "inflateIfNeededFor" "(Ljava/lang/String;)V", Cond.selects RJ4 ⟨"java/lang/AbstractStringBuilder", "inflateIfNeededFor", "(Ljava/lang/String;)V"⟩ yJ5_inflateIfNeededFor_a7421, Cond.instanceMethod yJ5_inflateIfNeededFor_a7421, Cond.code yJ5_inflateIfNeededFor_a7421 cJ5_inflateIfNeededFor_a7421 2 none, Cond.methodLink RJ5 40 yJ0_coder_7d493, Cond.methodLink RJ5 195 ⟨"java/lang/AbstractStringBuilder", "inflate", "()V"⟩, Cond.sameMethod "java/lang/AbstractStringBuilder" "java/lang/AbstractStringBuilder" "inflate" "()V", Cond.selects RJ4 ⟨"java/lang/AbstractStringBuilder", "inflate", "()V"⟩ yJ5_inflate_da8c8, Cond.instanceMethod yJ5_inflate_da8c8, Cond.code yJ5_inflate_da8c8 cJ5_inflate_da8c8 2 none, Cond.methodLink RJ5 125 yJ1_inflate_0e8fd, Cond.static yJ1_inflate_0e8fd, Cond.initialized RJ1, Cond.code yJ1_inflate_0e8fd cJ1_inflate_0e8fd 5 none, Cond.methodLink RJ1 240 yJ2_inflate_0e8fd, Cond.static yJ2_inflate_0e8fd, Cond.code yJ2_inflate_0e8fd cJ2_inflate_0e8fd 6 none, Cond.methodLink RJ2 173 yJ2_checkBoundsOffCount_d044e]
def wsJx7c733_init_d00df_r7 : List Cond := [Cond.static yJ2_checkBoundsOffCount_d044e, Cond.code yJ2_checkBoundsOffCount_d044e cJ2_checkBoundsOffCount_d044e 3 none, Cond.methodLink RJ2 419 yJ0_checkBoundsOffCount_cabcc, Cond.static yJ0_checkBoundsOffCount_cabcc, Cond.code yJ0_checkBoundsOffCount_cabcc cJ0_checkBoundsOffCount_cabcc 3 (some .int), Cond.methodLink RJ0 1065 yJ3_checkFromIndexSize_8c36e, Cond.static yJ3_checkFromIndexSize_8c36e, Cond.code yJ3_checkFromIndexSize_8c36e cJ3_checkFromIndexSize_8c36e 4 (some .int), Cond.methodLink RJ5 399 yJ0_getBytes_840e7, Cond.instanceMethod yJ0_getBytes_840e7, Cond.selects RJ0 yJ0_getBytes_840e7 yJ0_getBytes_840e7, Cond.code yJ0_getBytes_840e7 cJ0_getBytes_840e7 4 none, Cond.methodLink RJ0 212 arraycopyName, Cond.methodLink RJ0 106 yJ1_inflate_0e8fd, Cond.methodLink RJx7c733 19 yJ4_append_bf812, Cond.instanceMethod yJ4_append_bf812, Cond.selects RJ4 yJ4_append_bf812 yJ4_append_bf812, Cond.code yJ4_append_bf812 cJ4_append_bf812 2 (some (.object "java/lang/StringBuilder")), Cond.methodLink RJ4 53 yJ5_append_c97b9, Cond.sameMethod "java/lang/AbstractStringBuilder" "java/lang/AbstractStringBuilder" "append" "(I)Ljava/lang/AbstractStringBuilder;", Cond.instanceMethod yJ5_append_c97b9, Cond.code yJ5_append_c97b9 cJ5_append_c97b9 4 (some (.object "java/lang/AbstractStringBuilder")), Cond.methodLink RJ5 245 yJ6_stringSize_0f7a4, Cond.static yJ6_stringSize_0f7a4]
def wsJx7c733_init_d00df_r8 : List Cond := [Cond.initialized RJ6, Cond.code yJ6_stringSize_0f7a4 cJ6_stringSize_0f7a4 4 (some .int), Cond.methodLink RJ5 248 yJ6_getChars_ba4f3, Cond.static yJ6_getChars_ba4f3, Cond.code yJ6_getChars_ba4f3 cJ6_getChars_ba4f3 7 (some .int), Cond.fieldLink RJ6 83 "java/lang/Integer" "DigitOnes" "[B", Cond.fieldLink RJ6 87 "java/lang/Integer" "DigitTens" "[B", Cond.methodLink RJ5 251 yJ2_getChars_46870, Cond.static yJ2_getChars_46870, Cond.code yJ2_getChars_46870 cJ2_getChars_46870 5 (some .int), Cond.methodLink RJ2 393 yJ2_getChars_ba4f3, Cond.static yJ2_getChars_ba4f3, Cond.code yJ2_getChars_ba4f3 cJ2_getChars_ba4f3 7 (some .int), Cond.fieldLink RJ2 403 "java/lang/Integer" "DigitOnes" "[B", Cond.fieldLink RJ2 407 "java/lang/Integer" "DigitTens" "[B", Cond.methodLink RJx7c733 22 yJ4_toString_0e30d, Cond.instanceMethod yJ4_toString_0e30d, Cond.selects RJ4 yJ4_toString_0e30d yJ4_toString_0e30d, Cond.code yJ4_toString_0e30d cJ4_toString_0e30d 1 (some (.object "java/lang/String")), Cond.classLink RJ4 18 RJ0, Cond.instantiable RJ0 4, Cond.methodLink RJ4 137 yJ0_init_81219, Cond.instanceMethod yJ0_init_81219, Cond.code yJ0_init_81219 cJ0_init_81219 2 none]
def wsJx7c733_init_d00df_r9 : List Cond := [Cond.methodLink RJ0 489 yJ0_init_db425, Cond.instanceMethod yJ0_init_db425, Cond.code yJ0_init_db425 cJ0_init_db425 5 none, Cond.methodLink RJ0 1 objectInit, Cond.fieldLink RJ0 1048 "java/lang/AbstractStringBuilder" "maybeLatin1" "Z", Cond.methodLink RJ0 552 ⟨"java/lang/AbstractStringBuilder", "getValue", "()[B"⟩, Cond.sameMethod "java/lang/AbstractStringBuilder" "java/lang/AbstractStringBuilder" "getValue" "()[B", Cond.selects RJ4 ⟨"java/lang/AbstractStringBuilder", "getValue", "()[B"⟩ yJ5_getValue_6d5f1, Cond.instanceMethod yJ5_getValue_6d5f1, Cond.code yJ5_getValue_6d5f1 cJ5_getValue_6d5f1 1 (some (.array .byte)), Cond.methodLink RJ0 549 ⟨"java/lang/AbstractStringBuilder", "length", "()I"⟩, Cond.sameMethod "java/lang/AbstractStringBuilder" "java/lang/AbstractStringBuilder" "length" "()I", Cond.instanceMethod ⟨"java/lang/AbstractStringBuilder", "length", "()I"⟩, Cond.selects RJ4 ⟨"java/lang/AbstractStringBuilder", "length", "()I"⟩ yJ4_length_8abf5, Cond.instanceMethod yJ4_length_8abf5, Cond.code yJ4_length_8abf5 cJ4_length_8abf5 1 (some .int), Cond.methodLink RJ4 343 yJ5_length_8abf5, Cond.instanceMethod yJ5_length_8abf5, Cond.code yJ5_length_8abf5 cJ5_length_8abf5 1 (some .int), Cond.methodLink RJ0 1047 ⟨"java/lang/AbstractStringBuilder", "isLatin1", "()Z"⟩, Cond.methodLink RJ0 54 yJ7_copyOfRange_39247, Cond.static yJ7_copyOfRange_39247, Cond.code yJ7_copyOfRange_39247 cJ7_copyOfRange_39247 3 (some (.array .byte)), Cond.methodLink RJ7 339 yJ7_copyOfRangeByte_39247]
def wsJx7c733_init_d00df_r10 : List Cond := [Cond.static yJ7_copyOfRangeByte_39247, Cond.code yJ7_copyOfRangeByte_39247 cJ7_copyOfRangeByte_39247 5 (some (.array .byte)), Cond.methodLink RJ7 343 yJ7_checkLength_df160, Cond.static yJ7_checkLength_df160, Cond.code yJ7_checkLength_df160 cJ7_checkLength_df160 2 none, Cond.classLink RJ7 45 RJ4, Cond.methodLink RJ0 1051 yJ2_compress_39247, Cond.static yJ2_compress_39247, Cond.code yJ2_compress_39247 cJ2_compress_39247 6 (some (.array .byte)), Cond.methodLink RJ2 123 yJ2_compress_5af95, Cond.static yJ2_compress_5af95, Cond.code yJ2_compress_5af95 cJ2_compress_5af95 7 (some .int), Cond.methodLink RJ2 71 yJ2_getChar_3b067, Cond.static yJ2_getChar_3b067, Cond.code yJ2_getChar_3b067 cJ2_getChar_3b067 2 (some .char), Cond.methodLink RJ2 126 yJ7_copyOfRange_39247, Cond.methodLink RJ0 47 yJ2_coderFromArrayLen_85cad, Cond.static yJ2_coderFromArrayLen_85cad, Cond.code yJ2_coderFromArrayLen_85cad cJ2_coderFromArrayLen_85cad 2 (some .byte)]
def wsJx7c733_init_d00df : List Cond := .code yJx7c733_init_d00df cJx7c733_init_d00df 2 none :: ((wsJx7c733_init_d00df_r1 ++ (wsJx7c733_init_d00df_r2 ++ (wsJx7c733_init_d00df_r3 ++ (wsJx7c733_init_d00df_r4 ++ (wsJx7c733_init_d00df_r5 ++ (wsJx7c733_init_d00df_r6 ++ (wsJx7c733_init_d00df_r7 ++ (wsJx7c733_init_d00df_r8 ++ (wsJx7c733_init_d00df_r9 ++ wsJx7c733_init_d00df_r10))))))))) ++ wsJ40 ++ wsJ00)
def wsL_connector_r1 : List Cond := [Cond.classLink RL 13 "java/lang/IllegalArgumentException", Cond.methodLink RL 7 yX6_connector, Cond.instanceMethod yX6_connector, Cond.selects RX6 yX6_connector yX6_connector, Cond.initialized RX6, Cond.code yX6_connector cX6_connector 2 (some .int), Cond.constantLong RX6 65 (16), Cond.fieldLink RX6 10 "HarnessRows" "trees" "LHarnessRows$Trees;", Cond.methodLink RX6 67 yX6_checkNumber, Cond.static yX6_checkNumber, Cond.code yX6_checkNumber cX6_checkNumber 6 none, Cond.classLink RX6 199 "java/lang/IllegalArgumentException", Cond.initialized "java/lang/IllegalArgumentException", Cond.methodLink RX6 71 yX3_addNode, Cond.instanceMethod yX3_addNode, Cond.selects RX3 yX3_addNode yX3_addNode, Cond.initialized RX3, Cond.code yX3_addNode cX3_addNode 3 (some .int), Cond.fieldLink RX3 28 "HarnessRows$Trees" "nodes" "I", Cond.fieldLink RX3 9 "HarnessRows$Trees" "cavities" "[I", Cond.constantLong RX3 35 (-1), Cond.methodLink RX3 37 yX3_setWay, Cond.instanceMethod yX3_setWay, Cond.selects RX3 yX3_setWay yX3_setWay]
def wsL_connector_r2 : List Cond := [Cond.code yX3_setWay cX3_setWay 5 none, Cond.fieldLink RX3 24 "HarnessRows$Trees" "ways" "[J"]
def wsL_connector : List Cond := .codeWith yL_connector cL_connector 4 (some .int) [(0, 9, 12, 13)] :: ((wsL_connector_r1 ++ wsL_connector_r2) ++ wsX60 ++ wsX30 ++ (vx_atM "java/lang/ArrayIndexOutOfBoundsException" ["java/lang/IndexOutOfBoundsException", "java/lang/RuntimeException", "java/lang/Exception"]).filter goodWord ++ (vx_atS RX6 203 "java/lang/IllegalArgumentException" ["java/lang/RuntimeException", "java/lang/Exception"]).filter goodWord)
def wsL_bundle_r1 : List Cond := [Cond.classLink RL 19 "java/lang/IndexOutOfBoundsException", Cond.classLink RL 13 "java/lang/IllegalArgumentException", Cond.methodLink RL 15 yX6_bundle, Cond.instanceMethod yX6_bundle, Cond.selects RX6 yX6_bundle yX6_bundle, Cond.initialized RX6, Cond.code yX6_bundle cX6_bundle 5 (some .int), Cond.fieldLink RX6 10 "HarnessRows" "trees" "LHarnessRows$Trees;", Cond.constantLong RX6 83 (100000), Cond.methodLink RX6 75 yX3_nodeCount, Cond.instanceMethod yX3_nodeCount, Cond.selects RX3 yX3_nodeCount yX3_nodeCount, Cond.initialized RX3, Cond.code yX3_nodeCount cX3_nodeCount 1 (some .int), Cond.fieldLink RX3 28 "HarnessRows$Trees" "nodes" "I", Cond.methodLink RX6 79 yX6_checkIndex, Cond.static yX6_checkIndex, Cond.code yX6_checkIndex cX6_checkIndex 2 none, Cond.classLink RX6 190 "java/lang/IndexOutOfBoundsException", Cond.initialized "java/lang/IndexOutOfBoundsException", Cond.methodLink RX6 67 yX6_checkNumber, Cond.static yX6_checkNumber, Cond.code yX6_checkNumber cX6_checkNumber 6 none, Cond.classLink RX6 199 "java/lang/IllegalArgumentException"]
def wsL_bundle_r2 : List Cond := [Cond.initialized "java/lang/IllegalArgumentException", Cond.methodLink RX6 85 yX3_addBundle, Cond.instanceMethod yX3_addBundle, Cond.selects RX3 yX3_addBundle yX3_addBundle, Cond.code yX3_addBundle cX3_addBundle 5 (some .int), Cond.constantLong RX3 35 (-1), Cond.fieldLink RX3 32 "HarnessRows$Trees" "bundles" "I", Cond.fieldLink RX3 15 "HarnessRows$Trees" "firstNodes" "[I", Cond.fieldLink RX3 18 "HarnessRows$Trees" "otherNodes" "[I", Cond.fieldLink RX3 21 "HarnessRows$Trees" "lengths" "[I", Cond.methodLink RX3 41 yX3_wayBetween, Cond.instanceMethod yX3_wayBetween, Cond.selects RX3 yX3_wayBetween yX3_wayBetween, Cond.code yX3_wayBetween cX3_wayBetween 3 (some .long), Cond.fieldLink RX3 24 "HarnessRows$Trees" "ways" "[J", Cond.methodLink RX3 45 yX3_joinTrees, Cond.instanceMethod yX3_joinTrees, Cond.selects RX3 yX3_joinTrees yX3_joinTrees, Cond.code yX3_joinTrees cX3_joinTrees 9 none, Cond.methodLink RX3 48 yX3_treeOf, Cond.instanceMethod yX3_treeOf, Cond.selects RX3 yX3_treeOf yX3_treeOf, Cond.code yX3_treeOf cX3_treeOf 4 (some .int), Cond.static yX6_hasBit]
def wsL_bundle_r3 : List Cond := [Cond.code yX6_hasBit cX6_hasBit 2 (some .boolean), Cond.methodLink RX3 37 yX3_setWay, Cond.instanceMethod yX3_setWay, Cond.selects RX3 yX3_setWay yX3_setWay, Cond.code yX3_setWay cX3_setWay 5 none]
def wsL_bundle : List Cond := .codeWith yL_bundle cL_bundle 7 (some .int) [(0, 12, 15, 19), (0, 12, 19, 13)] :: ((wsL_bundle_r1 ++ (wsL_bundle_r2 ++ wsL_bundle_r3)) ++ wsX60 ++ wsX30 ++ (vx_atM "java/lang/ArrayIndexOutOfBoundsException" ["java/lang/IndexOutOfBoundsException", "java/lang/RuntimeException", "java/lang/Exception"]).filter goodWord ++ (vx_atS RX6 194 "java/lang/IndexOutOfBoundsException" ["java/lang/RuntimeException", "java/lang/Exception"]).filter goodWord ++ (vx_atS RX6 203 "java/lang/IllegalArgumentException" ["java/lang/RuntimeException", "java/lang/Exception"]).filter goodWord)
def wsL_wire_r1 : List Cond := [Cond.classLink RL 19 "java/lang/IndexOutOfBoundsException", Cond.methodLink RL 21 yX6_wire, Cond.instanceMethod yX6_wire, Cond.selects RX6 yX6_wire yX6_wire, Cond.initialized RX6, Cond.code yX6_wire cX6_wire 5 (some .int), Cond.fieldLink RX6 19 "HarnessRows" "wires" "LHarnessRows$Wires;", Cond.methodLink RX6 89 yX6_checkCavity, Cond.instanceMethod yX6_checkCavity, Cond.selects RX6 yX6_checkCavity yX6_checkCavity, Cond.code yX6_checkCavity cX6_checkCavity 3 none, Cond.fieldLink RX6 10 "HarnessRows" "trees" "LHarnessRows$Trees;", Cond.methodLink RX6 75 yX3_nodeCount, Cond.instanceMethod yX3_nodeCount, Cond.selects RX3 yX3_nodeCount yX3_nodeCount, Cond.initialized RX3, Cond.code yX3_nodeCount cX3_nodeCount 1 (some .int), Cond.fieldLink RX3 28 "HarnessRows$Trees" "nodes" "I", Cond.methodLink RX6 79 yX6_checkIndex, Cond.static yX6_checkIndex, Cond.code yX6_checkIndex cX6_checkIndex 2 none, Cond.classLink RX6 190 "java/lang/IndexOutOfBoundsException", Cond.initialized "java/lang/IndexOutOfBoundsException", Cond.methodLink RX6 204 yX3_cavitiesOf]
def wsL_wire_r2 : List Cond := [Cond.instanceMethod yX3_cavitiesOf, Cond.selects RX3 yX3_cavitiesOf yX3_cavitiesOf, Cond.code yX3_cavitiesOf cX3_cavitiesOf 2 (some .int), Cond.fieldLink RX3 9 "HarnessRows$Trees" "cavities" "[I", Cond.methodLink RX6 92 yX6_endOf, Cond.static yX6_endOf, Cond.code yX6_endOf cX6_endOf 2 (some .int), Cond.methodLink RX6 96 yX5_add, Cond.instanceMethod yX5_add, Cond.selects RX5 yX5_add yX5_add, Cond.initialized RX5, Cond.code yX5_add cX5_add 3 (some .int), Cond.fieldLink RX5 28 "HarnessRows$Wires" "wireCount" "I", Cond.fieldLink RX5 18 "HarnessRows$Wires" "colours" "[I", Cond.fieldLink RX5 9 "HarnessRows$Wires" "firstEnds" "[I", Cond.fieldLink RX5 15 "HarnessRows$Wires" "otherEnds" "[I", Cond.fieldLink RX5 21 "HarnessRows$Wires" "loads" "[J", Cond.fieldLink RX5 25 "HarnessRows$Wires" "drops" "[J", Cond.constantLong RX5 43 (1000000), Cond.methodLink RX5 32 yX5_wireAt, Cond.instanceMethod yX5_wireAt, Cond.selects RX5 yX5_wireAt yX5_wireAt, Cond.code yX5_wireAt cX5_wireAt 3 (some .int), Cond.static yX6_nodeOf]
def wsL_wire_r3 : List Cond := [Cond.code yX6_nodeOf cX6_nodeOf 1 (some .int), Cond.methodLink RX5 39 yX5_freeColour, Cond.instanceMethod yX5_freeColour, Cond.selects RX5 yX5_freeColour yX5_freeColour, Cond.code yX5_freeColour cX5_freeColour 5 (some .int), Cond.methodLink RX5 45 yX5_endsAt, Cond.instanceMethod yX5_endsAt, Cond.selects RX5 yX5_endsAt yX5_endsAt, Cond.code yX5_endsAt cX5_endsAt 3 (some .boolean), Cond.static yX6_hasBit, Cond.code yX6_hasBit cX6_hasBit 2 (some .boolean)]
def wsL_wire : List Cond := .codeWith yL_wire cL_wire 7 (some .int) [(0, 14, 17, 19)] :: ((wsL_wire_r1 ++ (wsL_wire_r2 ++ wsL_wire_r3)) ++ wsX60 ++ wsX30 ++ wsX50 ++ (vx_atM "java/lang/ArrayIndexOutOfBoundsException" ["java/lang/IndexOutOfBoundsException", "java/lang/RuntimeException", "java/lang/Exception"]).filter goodWord ++ (vx_atS RX6 194 "java/lang/IndexOutOfBoundsException" ["java/lang/RuntimeException", "java/lang/Exception"]).filter goodWord)
def wsL_load_r1 : List Cond := [Cond.classLink RL 19 "java/lang/IndexOutOfBoundsException", Cond.classLink RL 13 "java/lang/IllegalArgumentException", Cond.methodLink RL 25 yX6_load, Cond.instanceMethod yX6_load, Cond.selects RX6 yX6_load yX6_load, Cond.initialized RX6, Cond.code yX6_load cX6_load 6 (some .boolean), Cond.fieldLink RX6 19 "HarnessRows" "wires" "LHarnessRows$Wires;", Cond.constantLong RX6 102 (1000000), Cond.methodLink RX6 99 yX5_count, Cond.instanceMethod yX5_count, Cond.selects RX5 yX5_count yX5_count, Cond.initialized RX5, Cond.code yX5_count cX5_count 1 (some .int), Cond.fieldLink RX5 28 "HarnessRows$Wires" "wireCount" "I", Cond.methodLink RX6 79 yX6_checkIndex, Cond.static yX6_checkIndex, Cond.code yX6_checkIndex cX6_checkIndex 2 none, Cond.classLink RX6 190 "java/lang/IndexOutOfBoundsException", Cond.initialized "java/lang/IndexOutOfBoundsException", Cond.methodLink RX6 67 yX6_checkNumber, Cond.static yX6_checkNumber, Cond.code yX6_checkNumber cX6_checkNumber 6 none, Cond.classLink RX6 199 "java/lang/IllegalArgumentException"]
def wsL_load_r2 : List Cond := [Cond.initialized "java/lang/IllegalArgumentException", Cond.methodLink RX6 104 yX5_tellLoad, Cond.instanceMethod yX5_tellLoad, Cond.selects RX5 yX5_tellLoad yX5_tellLoad, Cond.code yX5_tellLoad cX5_tellLoad 7 (some .boolean), Cond.fieldLink RX5 21 "HarnessRows$Wires" "loads" "[J", Cond.fieldLink RX5 25 "HarnessRows$Wires" "drops" "[J"]
def wsL_load : List Cond := .codeWith yL_load cL_load 8 (some .int) [(0, 20, 23, 19), (0, 20, 27, 13)] :: ((wsL_load_r1 ++ wsL_load_r2) ++ wsX60 ++ wsX50 ++ (vx_atM "java/lang/ArrayIndexOutOfBoundsException" ["java/lang/IndexOutOfBoundsException", "java/lang/RuntimeException", "java/lang/Exception"]).filter goodWord ++ (vx_atS RX6 194 "java/lang/IndexOutOfBoundsException" ["java/lang/RuntimeException", "java/lang/Exception"]).filter goodWord ++ (vx_atS RX6 203 "java/lang/IllegalArgumentException" ["java/lang/RuntimeException", "java/lang/Exception"]).filter goodWord)
def wsL_gauge_r1 : List Cond := [Cond.classLink RL 19 "java/lang/IndexOutOfBoundsException", Cond.methodLink RL 29 yX6_gauge, Cond.instanceMethod yX6_gauge, Cond.selects RX6 yX6_gauge yX6_gauge, Cond.initialized RX6, Cond.code yX6_gauge cX6_gauge 4 (some .int), Cond.fieldLink RX6 19 "HarnessRows" "wires" "LHarnessRows$Wires;", Cond.constantLong RX6 112 (-1), Cond.fieldLink RX6 26 "HarnessRows" "rows" "LHarnessRows$Table;", Cond.methodLink RX6 99 yX5_count, Cond.instanceMethod yX5_count, Cond.selects RX5 yX5_count yX5_count, Cond.initialized RX5, Cond.code yX5_count cX5_count 1 (some .int), Cond.fieldLink RX5 28 "HarnessRows$Wires" "wireCount" "I", Cond.methodLink RX6 79 yX6_checkIndex, Cond.static yX6_checkIndex, Cond.code yX6_checkIndex cX6_checkIndex 2 none, Cond.classLink RX6 190 "java/lang/IndexOutOfBoundsException", Cond.initialized "java/lang/IndexOutOfBoundsException", Cond.methodLink RX6 108 yX6_cutLength, Cond.instanceMethod yX6_cutLength, Cond.selects RX6 yX6_cutLength yX6_cutLength, Cond.code yX6_cutLength cX6_cutLength 4 (some .long)]
def wsL_gauge_r2 : List Cond := [Cond.fieldLink RX6 10 "HarnessRows" "trees" "LHarnessRows$Trees;", Cond.fieldLink RX6 58 "HarnessRows" "slackAbove" "J", Cond.fieldLink RX6 62 "HarnessRows" "slackBelow" "J", Cond.methodLink RX6 167 yX5_firstEnd, Cond.instanceMethod yX5_firstEnd, Cond.selects RX5 yX5_firstEnd yX5_firstEnd, Cond.code yX5_firstEnd cX5_firstEnd 2 (some .int), Cond.fieldLink RX5 9 "HarnessRows$Wires" "firstEnds" "[I", Cond.methodLink RX6 207 yX6_nodeOf, Cond.static yX6_nodeOf, Cond.code yX6_nodeOf cX6_nodeOf 1 (some .int), Cond.methodLink RX6 170 yX5_otherEnd, Cond.instanceMethod yX5_otherEnd, Cond.selects RX5 yX5_otherEnd yX5_otherEnd, Cond.code yX5_otherEnd cX5_otherEnd 2 (some .int), Cond.fieldLink RX5 15 "HarnessRows$Wires" "otherEnds" "[I", Cond.methodLink RX6 210 yX3_wayBetween, Cond.instanceMethod yX3_wayBetween, Cond.selects RX3 yX3_wayBetween yX3_wayBetween, Cond.initialized RX3, Cond.code yX3_wayBetween cX3_wayBetween 3 (some .long), Cond.fieldLink RX3 24 "HarnessRows$Trees" "ways" "[J", Cond.methodLink RX6 114 yX5_loadOf, Cond.instanceMethod yX5_loadOf]
def wsL_gauge_r3 : List Cond := [Cond.selects RX5 yX5_loadOf yX5_loadOf, Cond.code yX5_loadOf cX5_loadOf 2 (some .long), Cond.fieldLink RX5 21 "HarnessRows$Wires" "loads" "[J", Cond.methodLink RX6 117 yX5_dropOf, Cond.instanceMethod yX5_dropOf, Cond.selects RX5 yX5_dropOf yX5_dropOf, Cond.code yX5_dropOf cX5_dropOf 2 (some .long), Cond.fieldLink RX5 25 "HarnessRows$Wires" "drops" "[J", Cond.methodLink RX6 120 yX2_leastThatWillDo, Cond.instanceMethod yX2_leastThatWillDo, Cond.selects RX2 yX2_leastThatWillDo yX2_leastThatWillDo, Cond.initialized RX2, Cond.code yX2_leastThatWillDo cX2_leastThatWillDo 11 (some .int), Cond.constantLong RX2 21 (1000001), Cond.fieldLink RX2 9 "HarnessRows$Table" "areas" "[J", Cond.methodLink RX2 23 yX2_willDo, Cond.instanceMethod yX2_willDo, Cond.selects RX2 yX2_willDo yX2_willDo, Cond.code yX2_willDo cX2_willDo 8 (some .boolean), Cond.fieldLink RX2 15 "HarnessRows$Table" "milliamperes" "[J", Cond.fieldLink RX2 18 "HarnessRows$Table" "microohms" "[J", Cond.constantLong RX2 27 (1000000000)]
def wsL_gauge : List Cond := .codeWith yL_gauge cL_gauge 4 (some .int) [(0, 9, 12, 19)] :: ((wsL_gauge_r1 ++ (wsL_gauge_r2 ++ wsL_gauge_r3)) ++ wsX60 ++ wsX50 ++ wsX30 ++ wsX20 ++ (vx_atM "java/lang/ArrayIndexOutOfBoundsException" ["java/lang/IndexOutOfBoundsException", "java/lang/RuntimeException", "java/lang/Exception"]).filter goodWord ++ (vx_atS RX6 194 "java/lang/IndexOutOfBoundsException" ["java/lang/RuntimeException", "java/lang/Exception"]).filter goodWord)
def wsL_table_r1 : List Cond := [Cond.classLink RL 19 "java/lang/IndexOutOfBoundsException", Cond.classLink RL 13 "java/lang/IllegalArgumentException", Cond.methodLink RL 32 yX6_table, Cond.instanceMethod yX6_table, Cond.selects RX6 yX6_table yX6_table, Cond.initialized RX6, Cond.code yX6_table cX6_table 8 (some .boolean), Cond.constantLong RX6 102 (1000000), Cond.fieldLink RX6 26 "HarnessRows" "rows" "LHarnessRows$Table;", Cond.methodLink RX6 79 yX6_checkIndex, Cond.static yX6_checkIndex, Cond.code yX6_checkIndex cX6_checkIndex 2 none, Cond.classLink RX6 190 "java/lang/IndexOutOfBoundsException", Cond.initialized "java/lang/IndexOutOfBoundsException", Cond.methodLink RX6 67 yX6_checkNumber, Cond.static yX6_checkNumber, Cond.code yX6_checkNumber cX6_checkNumber 6 none, Cond.classLink RX6 199 "java/lang/IllegalArgumentException", Cond.initialized "java/lang/IllegalArgumentException", Cond.methodLink RX6 124 yX2_tellRow, Cond.instanceMethod yX2_tellRow, Cond.selects RX2 yX2_tellRow yX2_tellRow, Cond.initialized RX2, Cond.code yX2_tellRow cX2_tellRow 9 (some .boolean)]
def wsL_table_r2 : List Cond := [Cond.fieldLink RX2 9 "HarnessRows$Table" "areas" "[J", Cond.fieldLink RX2 15 "HarnessRows$Table" "milliamperes" "[J", Cond.fieldLink RX2 18 "HarnessRows$Table" "microohms" "[J"]
def wsL_table : List Cond := .codeWith yL_table cL_table 10 (some .int) [(0, 22, 25, 19), (0, 22, 29, 13)] :: ((wsL_table_r1 ++ wsL_table_r2) ++ wsX60 ++ wsX20 ++ (vx_atM "java/lang/ArrayIndexOutOfBoundsException" ["java/lang/IndexOutOfBoundsException", "java/lang/RuntimeException", "java/lang/Exception"]).filter goodWord ++ (vx_atS RX6 194 "java/lang/IndexOutOfBoundsException" ["java/lang/RuntimeException", "java/lang/Exception"]).filter goodWord ++ (vx_atS RX6 203 "java/lang/IllegalArgumentException" ["java/lang/RuntimeException", "java/lang/Exception"]).filter goodWord)
def wsL_length_r1 : List Cond := [Cond.classLink RL 19 "java/lang/IndexOutOfBoundsException", Cond.methodLink RL 36 yX6_length, Cond.instanceMethod yX6_length, Cond.selects RX6 yX6_length yX6_length, Cond.initialized RX6, Cond.code yX6_length cX6_length 2 (some .long), Cond.fieldLink RX6 19 "HarnessRows" "wires" "LHarnessRows$Wires;", Cond.methodLink RX6 99 yX5_count, Cond.instanceMethod yX5_count, Cond.selects RX5 yX5_count yX5_count, Cond.initialized RX5, Cond.code yX5_count cX5_count 1 (some .int), Cond.fieldLink RX5 28 "HarnessRows$Wires" "wireCount" "I", Cond.methodLink RX6 79 yX6_checkIndex, Cond.static yX6_checkIndex, Cond.code yX6_checkIndex cX6_checkIndex 2 none, Cond.classLink RX6 190 "java/lang/IndexOutOfBoundsException", Cond.initialized "java/lang/IndexOutOfBoundsException", Cond.methodLink RX6 108 yX6_cutLength, Cond.instanceMethod yX6_cutLength, Cond.selects RX6 yX6_cutLength yX6_cutLength, Cond.code yX6_cutLength cX6_cutLength 4 (some .long), Cond.fieldLink RX6 10 "HarnessRows" "trees" "LHarnessRows$Trees;", Cond.constantLong RX6 112 (-1)]
def wsL_length_r2 : List Cond := [Cond.fieldLink RX6 58 "HarnessRows" "slackAbove" "J", Cond.fieldLink RX6 62 "HarnessRows" "slackBelow" "J", Cond.methodLink RX6 167 yX5_firstEnd, Cond.instanceMethod yX5_firstEnd, Cond.selects RX5 yX5_firstEnd yX5_firstEnd, Cond.code yX5_firstEnd cX5_firstEnd 2 (some .int), Cond.fieldLink RX5 9 "HarnessRows$Wires" "firstEnds" "[I", Cond.methodLink RX6 207 yX6_nodeOf, Cond.static yX6_nodeOf, Cond.code yX6_nodeOf cX6_nodeOf 1 (some .int), Cond.methodLink RX6 170 yX5_otherEnd, Cond.instanceMethod yX5_otherEnd, Cond.selects RX5 yX5_otherEnd yX5_otherEnd, Cond.code yX5_otherEnd cX5_otherEnd 2 (some .int), Cond.fieldLink RX5 15 "HarnessRows$Wires" "otherEnds" "[I", Cond.methodLink RX6 210 yX3_wayBetween, Cond.instanceMethod yX3_wayBetween, Cond.selects RX3 yX3_wayBetween yX3_wayBetween, Cond.initialized RX3, Cond.code yX3_wayBetween cX3_wayBetween 3 (some .long), Cond.fieldLink RX3 24 "HarnessRows$Trees" "ways" "[J"]
def wsL_length : List Cond := .codeWith yL_length cL_length 4 (some .int) [(0, 8, 11, 19)] :: ((wsL_length_r1 ++ wsL_length_r2) ++ wsX60 ++ wsX50 ++ wsX30 ++ (vx_atM "java/lang/ArrayIndexOutOfBoundsException" ["java/lang/IndexOutOfBoundsException", "java/lang/RuntimeException", "java/lang/Exception"]).filter goodWord ++ (vx_atS RX6 194 "java/lang/IndexOutOfBoundsException" ["java/lang/RuntimeException", "java/lang/Exception"]).filter goodWord)
def wsL_slack : List Cond := .codeWith yL_slack cL_slack 7 (some .int) [(0, 18, 21, 13)] :: ([.classLink RL 13 "java/lang/IllegalArgumentException", .methodLink RL 40 yX6_slack, .instanceMethod yX6_slack, .selects RX6 yX6_slack yX6_slack, .initialized RX6, .code yX6_slack cX6_slack 6 (some .boolean), .constantLong RX6 128 (1000), .fieldLink RX6 58 "HarnessRows" "slackAbove" "J", .fieldLink RX6 62 "HarnessRows" "slackBelow" "J", .methodLink RX6 67 yX6_checkNumber, .static yX6_checkNumber, .code yX6_checkNumber cX6_checkNumber 6 none, .classLink RX6 199 "java/lang/IllegalArgumentException", .initialized "java/lang/IllegalArgumentException"] ++ wsX60 ++ (vx_atM "java/lang/ArrayIndexOutOfBoundsException" ["java/lang/IndexOutOfBoundsException", "java/lang/RuntimeException", "java/lang/Exception"]).filter goodWord ++ (vx_atS RX6 203 "java/lang/IllegalArgumentException" ["java/lang/RuntimeException", "java/lang/Exception"]).filter goodWord)
def wsL_reel_r1 : List Cond := [Cond.classLink RL 13 "java/lang/IllegalArgumentException", Cond.methodLink RL 44 yX6_reel, Cond.instanceMethod yX6_reel, Cond.selects RX6 yX6_reel yX6_reel, Cond.initialized RX6, Cond.code yX6_reel cX6_reel 6 (some .int), Cond.constantLong RX6 130 (10000000), Cond.fieldLink RX6 33 "HarnessRows" "reels" "LHarnessRows$Reels;", Cond.fieldLink RX6 19 "HarnessRows" "wires" "LHarnessRows$Wires;", Cond.constantLong RX6 112 (-1), Cond.methodLink RX6 67 yX6_checkNumber, Cond.static yX6_checkNumber, Cond.code yX6_checkNumber cX6_checkNumber 6 none, Cond.classLink RX6 199 "java/lang/IllegalArgumentException", Cond.initialized "java/lang/IllegalArgumentException", Cond.methodLink RX6 132 yX0_begin, Cond.instanceMethod yX0_begin, Cond.selects RX0 yX0_begin yX0_begin, Cond.initialized RX0, Cond.code yX0_begin cX0_begin 1 none, Cond.fieldLink RX0 9 "HarnessRows$Reels" "reelOfWire" "[I", Cond.fieldLink RX0 22 "HarnessRows$Reels" "filled" "[J", Cond.fieldLink RX0 28 "HarnessRows$Reels" "pieces" "I", Cond.methodLink RX0 39 yJ7_fill_53178]
def wsL_reel_r2 : List Cond := [Cond.static yJ7_fill_53178, Cond.initialized RJ7, Cond.code yJ7_fill_53178 cJ7_fill_53178 4 none, Cond.methodLink RX0 45 yJ7_fill_d0a16, Cond.static yJ7_fill_d0a16, Cond.code yJ7_fill_d0a16 cJ7_fill_d0a16 5 none, Cond.methodLink RX6 99 yX5_count, Cond.instanceMethod yX5_count, Cond.selects RX5 yX5_count yX5_count, Cond.initialized RX5, Cond.code yX5_count cX5_count 1 (some .int), Cond.fieldLink RX5 28 "HarnessRows$Wires" "wireCount" "I", Cond.methodLink RX6 108 yX6_cutLength, Cond.instanceMethod yX6_cutLength, Cond.selects RX6 yX6_cutLength yX6_cutLength, Cond.code yX6_cutLength cX6_cutLength 4 (some .long), Cond.fieldLink RX6 10 "HarnessRows" "trees" "LHarnessRows$Trees;", Cond.fieldLink RX6 58 "HarnessRows" "slackAbove" "J", Cond.fieldLink RX6 62 "HarnessRows" "slackBelow" "J", Cond.methodLink RX6 167 yX5_firstEnd, Cond.instanceMethod yX5_firstEnd, Cond.selects RX5 yX5_firstEnd yX5_firstEnd, Cond.code yX5_firstEnd cX5_firstEnd 2 (some .int), Cond.fieldLink RX5 9 "HarnessRows$Wires" "firstEnds" "[I"]
def wsL_reel_r3 : List Cond := [Cond.methodLink RX6 207 yX6_nodeOf, Cond.static yX6_nodeOf, Cond.code yX6_nodeOf cX6_nodeOf 1 (some .int), Cond.methodLink RX6 170 yX5_otherEnd, Cond.instanceMethod yX5_otherEnd, Cond.selects RX5 yX5_otherEnd yX5_otherEnd, Cond.code yX5_otherEnd cX5_otherEnd 2 (some .int), Cond.fieldLink RX5 15 "HarnessRows$Wires" "otherEnds" "[I", Cond.methodLink RX6 210 yX3_wayBetween, Cond.instanceMethod yX3_wayBetween, Cond.selects RX3 yX3_wayBetween yX3_wayBetween, Cond.initialized RX3, Cond.code yX3_wayBetween cX3_wayBetween 3 (some .long), Cond.fieldLink RX3 24 "HarnessRows$Trees" "ways" "[J", Cond.methodLink RX6 135 yX0_addPiece, Cond.instanceMethod yX0_addPiece, Cond.selects RX0 yX0_addPiece yX0_addPiece, Cond.code yX0_addPiece cX0_addPiece 4 none, Cond.fieldLink RX0 15 "HarnessRows$Reels" "wireOfPiece" "[I", Cond.fieldLink RX0 18 "HarnessRows$Reels" "cuts" "[J", Cond.methodLink RX6 139 yX0_pack, Cond.instanceMethod yX0_pack, Cond.selects RX0 yX0_pack yX0_pack, Cond.code yX0_pack cX0_pack 4 (some .int)]
def wsL_reel_r4 : List Cond := [Cond.fieldLink RX0 35 "HarnessRows$Reels" "reelLength" "J", Cond.methodLink RX0 48 yX0_packOnFewest, Cond.instanceMethod yX0_packOnFewest, Cond.selects RX0 yX0_packOnFewest yX0_packOnFewest, Cond.code yX0_packOnFewest cX0_packOnFewest 1 (some .int), Cond.fieldLink RX0 32 "HarnessRows$Reels" "fewest" "I", Cond.methodLink RX0 55 yX0_placeFrom, Cond.instanceMethod yX0_placeFrom, Cond.selects RX0 yX0_placeFrom yX0_placeFrom, Cond.code yX0_placeFrom cX0_placeFrom 4 none, Cond.methodLink RX0 59 yX0_keepTrial, Cond.instanceMethod yX0_keepTrial, Cond.selects RX0 yX0_keepTrial yX0_keepTrial, Cond.code yX0_keepTrial cX0_keepTrial 3 none, Cond.fieldLink RX0 25 "HarnessRows$Reels" "trial" "[I", Cond.methodLink RX0 63 yX0_placeOn, Cond.instanceMethod yX0_placeOn, Cond.selects RX0 yX0_placeOn yX0_placeOn, Cond.code yX0_placeOn cX0_placeOn 4 none, Cond.methodLink RX0 71 Lib.Math.max.name, Cond.static Lib.Math.max.name, Cond.initialized "java/lang/Math", Cond.code Lib.Math.max.name Lib.Math.max.code 2 (some .int), Cond.methodLink RX0 67 yX0_hasRoom]
def wsL_reel_r5 : List Cond := [Cond.instanceMethod yX0_hasRoom, Cond.selects RX0 yX0_hasRoom yX0_hasRoom, Cond.code yX0_hasRoom cX0_hasRoom 3 (some .boolean), Cond.methodLink RX0 52 yX0_packLongestFirst, Cond.instanceMethod yX0_packLongestFirst, Cond.selects RX0 yX0_packLongestFirst yX0_packLongestFirst, Cond.code yX0_packLongestFirst cX0_packLongestFirst 5 (some .int), Cond.methodLink RX0 77 yX0_longestLeft, Cond.instanceMethod yX0_longestLeft, Cond.selects RX0 yX0_longestLeft yX0_longestLeft, Cond.code yX0_longestLeft cX0_longestLeft 4 (some .int), Cond.methodLink RX0 80 yX0_lowestWithRoom, Cond.instanceMethod yX0_lowestWithRoom, Cond.selects RX0 yX0_lowestWithRoom yX0_lowestWithRoom, Cond.code yX0_lowestWithRoom cX0_lowestWithRoom 3 (some .int)]
def wsL_reel : List Cond := .codeWith yL_reel cL_reel 5 (some .int) [(0, 9, 12, 13)] :: ((wsL_reel_r1 ++ (wsL_reel_r2 ++ (wsL_reel_r3 ++ (wsL_reel_r4 ++ wsL_reel_r5)))) ++ wsX60 ++ wsX00 ++ wsX50 ++ wsX30 ++ (vx_atM "java/lang/ArrayIndexOutOfBoundsException" ["java/lang/IndexOutOfBoundsException", "java/lang/RuntimeException", "java/lang/Exception"]).filter goodWord ++ (vx_atS RX6 203 "java/lang/IllegalArgumentException" ["java/lang/RuntimeException", "java/lang/Exception"]).filter goodWord)
def wsL_reelOf_r1 : List Cond := [Cond.classLink RL 19 "java/lang/IndexOutOfBoundsException", Cond.methodLink RL 48 yX6_reelOf, Cond.instanceMethod yX6_reelOf, Cond.selects RX6 yX6_reelOf yX6_reelOf, Cond.initialized RX6, Cond.code yX6_reelOf cX6_reelOf 2 (some .int), Cond.fieldLink RX6 19 "HarnessRows" "wires" "LHarnessRows$Wires;", Cond.fieldLink RX6 33 "HarnessRows" "reels" "LHarnessRows$Reels;", Cond.methodLink RX6 99 yX5_count, Cond.instanceMethod yX5_count, Cond.selects RX5 yX5_count yX5_count, Cond.initialized RX5, Cond.code yX5_count cX5_count 1 (some .int), Cond.fieldLink RX5 28 "HarnessRows$Wires" "wireCount" "I", Cond.methodLink RX6 79 yX6_checkIndex, Cond.static yX6_checkIndex, Cond.code yX6_checkIndex cX6_checkIndex 2 none, Cond.classLink RX6 190 "java/lang/IndexOutOfBoundsException", Cond.initialized "java/lang/IndexOutOfBoundsException", Cond.methodLink RX6 143 yX0_numberOf, Cond.instanceMethod yX0_numberOf, Cond.selects RX0 yX0_numberOf yX0_numberOf, Cond.initialized RX0, Cond.code yX0_numberOf cX0_numberOf 2 (some .int)]
def wsL_reelOf_r2 : List Cond := [Cond.fieldLink RX0 9 "HarnessRows$Reels" "reelOfWire" "[I"]
def wsL_reelOf : List Cond := .codeWith yL_reelOf cL_reelOf 4 (some .int) [(0, 9, 12, 19)] :: ((wsL_reelOf_r1 ++ wsL_reelOf_r2) ++ wsX60 ++ wsX50 ++ wsX00 ++ (vx_atM "java/lang/ArrayIndexOutOfBoundsException" ["java/lang/IndexOutOfBoundsException", "java/lang/RuntimeException", "java/lang/Exception"]).filter goodWord ++ (vx_atS RX6 194 "java/lang/IndexOutOfBoundsException" ["java/lang/RuntimeException", "java/lang/Exception"]).filter goodWord)
def wsL_splice_r1 : List Cond := [Cond.classLink RL 19 "java/lang/IndexOutOfBoundsException", Cond.methodLink RL 51 yX6_splice, Cond.instanceMethod yX6_splice, Cond.selects RX6 yX6_splice yX6_splice, Cond.initialized RX6, Cond.code yX6_splice cX6_splice 3 (some .int), Cond.fieldLink RX6 19 "HarnessRows" "wires" "LHarnessRows$Wires;", Cond.fieldLink RX6 40 "HarnessRows" "splices" "LHarnessRows$Splices;", Cond.methodLink RX6 99 yX5_count, Cond.instanceMethod yX5_count, Cond.selects RX5 yX5_count yX5_count, Cond.initialized RX5, Cond.code yX5_count cX5_count 1 (some .int), Cond.fieldLink RX5 28 "HarnessRows$Wires" "wireCount" "I", Cond.methodLink RX6 79 yX6_checkIndex, Cond.static yX6_checkIndex, Cond.code yX6_checkIndex cX6_checkIndex 2 none, Cond.classLink RX6 190 "java/lang/IndexOutOfBoundsException", Cond.initialized "java/lang/IndexOutOfBoundsException", Cond.methodLink RX6 146 yX1_add, Cond.instanceMethod yX1_add, Cond.selects RX1 yX1_add yX1_add, Cond.initialized RX1, Cond.code yX1_add cX1_add 3 (some .int)]
def wsL_splice_r2 : List Cond := [Cond.fieldLink RX1 18 "HarnessRows$Splices" "spliceCount" "I", Cond.fieldLink RX1 9 "HarnessRows$Splices" "partners" "[I", Cond.fieldLink RX1 15 "HarnessRows$Splices" "groups" "[I", Cond.static yX6_hasBit, Cond.code yX6_hasBit cX6_hasBit 2 (some .boolean), Cond.methodLink RX1 26 yX1_mergeGroups, Cond.instanceMethod yX1_mergeGroups, Cond.selects RX1 yX1_mergeGroups yX1_mergeGroups, Cond.code yX1_mergeGroups cX1_mergeGroups 4 none]
def wsL_splice : List Cond := .codeWith yL_splice cL_splice 5 (some .int) [(0, 10, 13, 19)] :: ((wsL_splice_r1 ++ wsL_splice_r2) ++ wsX60 ++ wsX50 ++ wsX10 ++ (vx_atM "java/lang/ArrayIndexOutOfBoundsException" ["java/lang/IndexOutOfBoundsException", "java/lang/RuntimeException", "java/lang/Exception"]).filter goodWord ++ (vx_atS RX6 194 "java/lang/IndexOutOfBoundsException" ["java/lang/RuntimeException", "java/lang/Exception"]).filter goodWord)
def wsL_joined_r1 : List Cond := [Cond.classLink RL 19 "java/lang/IndexOutOfBoundsException", Cond.methodLink RL 55 yX6_joined, Cond.instanceMethod yX6_joined, Cond.selects RX6 yX6_joined yX6_joined, Cond.initialized RX6, Cond.code yX6_joined cX6_joined 9 (some .boolean), Cond.fieldLink RX6 19 "HarnessRows" "wires" "LHarnessRows$Wires;", Cond.fieldLink RX6 40 "HarnessRows" "splices" "LHarnessRows$Splices;", Cond.methodLink RX6 89 yX6_checkCavity, Cond.instanceMethod yX6_checkCavity, Cond.selects RX6 yX6_checkCavity yX6_checkCavity, Cond.code yX6_checkCavity cX6_checkCavity 3 none, Cond.fieldLink RX6 10 "HarnessRows" "trees" "LHarnessRows$Trees;", Cond.methodLink RX6 75 yX3_nodeCount, Cond.instanceMethod yX3_nodeCount, Cond.selects RX3 yX3_nodeCount yX3_nodeCount, Cond.initialized RX3, Cond.code yX3_nodeCount cX3_nodeCount 1 (some .int), Cond.fieldLink RX3 28 "HarnessRows$Trees" "nodes" "I", Cond.methodLink RX6 79 yX6_checkIndex, Cond.static yX6_checkIndex, Cond.code yX6_checkIndex cX6_checkIndex 2 none, Cond.classLink RX6 190 "java/lang/IndexOutOfBoundsException", Cond.initialized "java/lang/IndexOutOfBoundsException"]
def wsL_joined_r2 : List Cond := [Cond.methodLink RX6 204 yX3_cavitiesOf, Cond.instanceMethod yX3_cavitiesOf, Cond.selects RX3 yX3_cavitiesOf yX3_cavitiesOf, Cond.code yX3_cavitiesOf cX3_cavitiesOf 2 (some .int), Cond.fieldLink RX3 9 "HarnessRows$Trees" "cavities" "[I", Cond.methodLink RX6 92 yX6_endOf, Cond.static yX6_endOf, Cond.code yX6_endOf cX6_endOf 2 (some .int), Cond.methodLink RX6 147 yX5_wireAt, Cond.instanceMethod yX5_wireAt, Cond.selects RX5 yX5_wireAt yX5_wireAt, Cond.initialized RX5, Cond.code yX5_wireAt cX5_wireAt 3 (some .int), Cond.fieldLink RX5 28 "HarnessRows$Wires" "wireCount" "I", Cond.fieldLink RX5 9 "HarnessRows$Wires" "firstEnds" "[I", Cond.fieldLink RX5 15 "HarnessRows$Wires" "otherEnds" "[I", Cond.methodLink RX6 150 yX1_inOneGroup, Cond.instanceMethod yX1_inOneGroup, Cond.selects RX1 yX1_inOneGroup yX1_inOneGroup, Cond.initialized RX1, Cond.code yX1_inOneGroup cX1_inOneGroup 3 (some .boolean), Cond.fieldLink RX1 15 "HarnessRows$Splices" "groups" "[I"]
def wsL_joined : List Cond := .codeWith yL_joined cL_joined 7 (some .int) [(0, 21, 24, 19)] :: ((wsL_joined_r1 ++ wsL_joined_r2) ++ wsX60 ++ wsX30 ++ wsX50 ++ wsX10 ++ (vx_atM "java/lang/ArrayIndexOutOfBoundsException" ["java/lang/IndexOutOfBoundsException", "java/lang/RuntimeException", "java/lang/Exception"]).filter goodWord ++ (vx_atS RX6 194 "java/lang/IndexOutOfBoundsException" ["java/lang/RuntimeException", "java/lang/Exception"]).filter goodWord)
def wsL_colour : List Cond := .codeWith yL_colour cL_colour 4 (some .int) [(0, 9, 12, 19)] :: ([.classLink RL 19 "java/lang/IndexOutOfBoundsException", .methodLink RL 59 yX6_colour, .instanceMethod yX6_colour, .selects RX6 yX6_colour yX6_colour, .initialized RX6, .code yX6_colour cX6_colour 2 (some .int), .fieldLink RX6 19 "HarnessRows" "wires" "LHarnessRows$Wires;", .methodLink RX6 99 yX5_count, .instanceMethod yX5_count, .selects RX5 yX5_count yX5_count, .initialized RX5, .code yX5_count cX5_count 1 (some .int), .fieldLink RX5 28 "HarnessRows$Wires" "wireCount" "I", .methodLink RX6 79 yX6_checkIndex, .static yX6_checkIndex, .code yX6_checkIndex cX6_checkIndex 2 none, .classLink RX6 190 "java/lang/IndexOutOfBoundsException", .initialized "java/lang/IndexOutOfBoundsException", .methodLink RX6 154 yX5_colourOf, .instanceMethod yX5_colourOf, .selects RX5 yX5_colourOf yX5_colourOf, .code yX5_colourOf cX5_colourOf 2 (some .int), .fieldLink RX5 18 "HarnessRows$Wires" "colours" "[I"] ++ wsX60 ++ wsX50 ++ (vx_atM "java/lang/ArrayIndexOutOfBoundsException" ["java/lang/IndexOutOfBoundsException", "java/lang/RuntimeException", "java/lang/Exception"]).filter goodWord ++ (vx_atS RX6 194 "java/lang/IndexOutOfBoundsException" ["java/lang/RuntimeException", "java/lang/Exception"]).filter goodWord)
def wsL_has_r1 : List Cond := [Cond.classLink RL 19 "java/lang/IndexOutOfBoundsException", Cond.methodLink RL 62 yX6_has, Cond.instanceMethod yX6_has, Cond.selects RX6 yX6_has yX6_has, Cond.initialized RX6, Cond.code yX6_has cX6_has 4 (some .boolean), Cond.fieldLink RX6 47 "HarnessRows" "variants" "LHarnessRows$Variants;", Cond.fieldLink RX6 19 "HarnessRows" "wires" "LHarnessRows$Wires;", Cond.methodLink RX6 159 yX4_count, Cond.instanceMethod yX4_count, Cond.selects RX4 yX4_count yX4_count, Cond.initialized RX4, Cond.code yX4_count cX4_count 1 (some .int), Cond.fieldLink RX4 18 "HarnessRows$Variants" "variantCount" "I", Cond.methodLink RX6 79 yX6_checkIndex, Cond.static yX6_checkIndex, Cond.code yX6_checkIndex cX6_checkIndex 2 none, Cond.classLink RX6 190 "java/lang/IndexOutOfBoundsException", Cond.initialized "java/lang/IndexOutOfBoundsException", Cond.methodLink RX6 99 yX5_count, Cond.instanceMethod yX5_count, Cond.selects RX5 yX5_count yX5_count, Cond.initialized RX5, Cond.code yX5_count cX5_count 1 (some .int)]
def wsL_has_r2 : List Cond := [Cond.fieldLink RX5 28 "HarnessRows$Wires" "wireCount" "I", Cond.methodLink RX6 160 yX4_tellWire, Cond.instanceMethod yX4_tellWire, Cond.selects RX4 yX4_tellWire yX4_tellWire, Cond.code yX4_tellWire cX4_tellWire 6 (some .boolean), Cond.fieldLink RX4 9 "HarnessRows$Variants" "toldWires" "[I", Cond.fieldLink RX4 15 "HarnessRows$Variants" "onWires" "[I", Cond.methodLink RX4 22 yX4_isOn, Cond.instanceMethod yX4_isOn, Cond.selects RX4 yX4_isOn yX4_isOn, Cond.code yX4_isOn cX4_isOn 4 (some .boolean), Cond.static yX6_hasBit, Cond.code yX6_hasBit cX6_hasBit 2 (some .boolean)]
def wsL_has : List Cond := .codeWith yL_has cL_has 6 (some .int) [(0, 19, 22, 19)] :: ((wsL_has_r1 ++ wsL_has_r2) ++ wsX60 ++ wsX40 ++ wsX50 ++ (vx_atM "java/lang/ArrayIndexOutOfBoundsException" ["java/lang/IndexOutOfBoundsException", "java/lang/RuntimeException", "java/lang/Exception"]).filter goodWord ++ (vx_atS RX6 194 "java/lang/IndexOutOfBoundsException" ["java/lang/RuntimeException", "java/lang/Exception"]).filter goodWord)
def wsL_told_r1 : List Cond := [Cond.classLink RL 19 "java/lang/IndexOutOfBoundsException", Cond.methodLink RL 66 yX6_told, Cond.instanceMethod yX6_told, Cond.selects RX6 yX6_told yX6_told, Cond.initialized RX6, Cond.code yX6_told cX6_told 4 (some .int), Cond.fieldLink RX6 47 "HarnessRows" "variants" "LHarnessRows$Variants;", Cond.fieldLink RX6 19 "HarnessRows" "wires" "LHarnessRows$Wires;", Cond.methodLink RX6 79 yX6_checkIndex, Cond.static yX6_checkIndex, Cond.code yX6_checkIndex cX6_checkIndex 2 none, Cond.classLink RX6 190 "java/lang/IndexOutOfBoundsException", Cond.initialized "java/lang/IndexOutOfBoundsException", Cond.methodLink RX6 99 yX5_count, Cond.instanceMethod yX5_count, Cond.selects RX5 yX5_count yX5_count, Cond.initialized RX5, Cond.code yX5_count cX5_count 1 (some .int), Cond.fieldLink RX5 28 "HarnessRows$Wires" "wireCount" "I", Cond.methodLink RX6 164 yX4_wireOff, Cond.instanceMethod yX4_wireOff, Cond.selects RX4 yX4_wireOff yX4_wireOff, Cond.initialized RX4, Cond.code yX4_wireOff cX4_wireOff 5 (some .int)]
def wsL_told_r2 : List Cond := [Cond.fieldLink RX4 18 "HarnessRows$Variants" "variantCount" "I", Cond.methodLink RX4 22 yX4_isOn, Cond.instanceMethod yX4_isOn, Cond.selects RX4 yX4_isOn yX4_isOn, Cond.code yX4_isOn cX4_isOn 4 (some .boolean), Cond.fieldLink RX4 9 "HarnessRows$Variants" "toldWires" "[I", Cond.fieldLink RX4 15 "HarnessRows$Variants" "onWires" "[I", Cond.static yX6_hasBit, Cond.code yX6_hasBit cX6_hasBit 2 (some .boolean), Cond.methodLink RX6 167 yX5_firstEnd, Cond.instanceMethod yX5_firstEnd, Cond.selects RX5 yX5_firstEnd yX5_firstEnd, Cond.code yX5_firstEnd cX5_firstEnd 2 (some .int), Cond.fieldLink RX5 9 "HarnessRows$Wires" "firstEnds" "[I", Cond.methodLink RX6 170 yX5_otherEnd, Cond.instanceMethod yX5_otherEnd, Cond.selects RX5 yX5_otherEnd yX5_otherEnd, Cond.code yX5_otherEnd cX5_otherEnd 2 (some .int), Cond.fieldLink RX5 15 "HarnessRows$Wires" "otherEnds" "[I"]
def wsL_told : List Cond := .codeWith yL_told cL_told 5 (some .int) [(0, 10, 13, 19)] :: ((wsL_told_r1 ++ wsL_told_r2) ++ wsX60 ++ wsX50 ++ wsX40 ++ (vx_atM "java/lang/ArrayIndexOutOfBoundsException" ["java/lang/IndexOutOfBoundsException", "java/lang/RuntimeException", "java/lang/Exception"]).filter goodWord ++ (vx_atS RX6 194 "java/lang/IndexOutOfBoundsException" ["java/lang/RuntimeException", "java/lang/Exception"]).filter goodWord)
def wsL_command_r1 : List Cond := [Cond.classLink RL 19 "java/lang/IndexOutOfBoundsException", Cond.methodLink RL 69 yX6_command, Cond.instanceMethod yX6_command, Cond.selects RX6 yX6_command yX6_command, Cond.initialized RX6, Cond.code yX6_command cX6_command 3 (some .int), Cond.fieldLink RX6 10 "HarnessRows" "trees" "LHarnessRows$Trees;", Cond.fieldLink RX6 54 "HarnessRows" "line" "Ljava/lang/StringBuilder;", Cond.methodLink RX6 173 yX3_bundleCount, Cond.instanceMethod yX3_bundleCount, Cond.selects RX3 yX3_bundleCount yX3_bundleCount, Cond.initialized RX3, Cond.code yX3_bundleCount cX3_bundleCount 1 (some .int), Cond.fieldLink RX3 32 "HarnessRows$Trees" "bundles" "I", Cond.methodLink RX6 79 yX6_checkIndex, Cond.static yX6_checkIndex, Cond.code yX6_checkIndex cX6_checkIndex 2 none, Cond.classLink RX6 190 "java/lang/IndexOutOfBoundsException", Cond.initialized "java/lang/IndexOutOfBoundsException", Cond.methodLink RX6 176 yX6_checkNotBelowZero, Cond.static yX6_checkNotBelowZero, Cond.code yX6_checkNotBelowZero cX6_checkNotBelowZero 1 none, Cond.methodLink RX6 180 yX6_writeBundle, Cond.instanceMethod yX6_writeBundle]
def wsL_command_r2 : List Cond := [Cond.selects RX6 yX6_writeBundle yX6_writeBundle, Cond.code yX6_writeBundle cX6_writeBundle 2 none, Cond.methodLink RX6 214 yJ4_setLength_d00df, Cond.instanceMethod yJ4_setLength_d00df, Cond.selects RJ4 yJ4_setLength_d00df yJ4_setLength_d00df, Cond.initialized RJ4, Cond.code yJ4_setLength_d00df cJ4_setLength_d00df 2 none, Cond.methodLink RJ4 333 yJ5_setLength_d00df, Cond.sameMethod "java/lang/AbstractStringBuilder" "java/lang/AbstractStringBuilder" "setLength" "(I)V", Cond.superclass RJ4 RJ5, Cond.instanceMethod yJ5_setLength_d00df, Cond.initialized RJ5, Cond.code yJ5_setLength_d00df cJ5_setLength_d00df 2 none, Cond.classLink RJ5 129 RJx7c733, Cond.instantiable RJx7c733 6, Cond.initialized RJx7c733, Cond.fieldLink RJ5 79 "java/lang/AbstractStringBuilder" "count" "I", Cond.fieldLink RJ5 15 "java/lang/AbstractStringBuilder" "value" "[B", Cond.fieldLink RJ5 73 "java/lang/AbstractStringBuilder" "maybeLatin1" "Z", Cond.methodLink RJ5 100 ⟨"java/lang/AbstractStringBuilder", "ensureCapacityInternal", "(I)V"⟩, Cond.sameMethod "java/lang/AbstractStringBuilder" "java/lang/AbstractStringBuilder" "ensureCapacityInternal" "(I)V", Cond.selects RJ4 ⟨"java/lang/AbstractStringBuilder", "ensureCapacityInternal", "(I)V"⟩ yJ5_ensureCapacityInternal_d00df, Cond.instanceMethod yJ5_ensureCapacityInternal_d00df, Cond.code yJ5_ensureCapacityInternal_d00df cJ5_ensureCapacityInternal_d00df 3 none]
def wsL_command_r3 : List Cond := [Cond.fieldLink RJ5 22 "java/lang/AbstractStringBuilder" "coder" "B", Cond.methodLink RJ5 104 ⟨"java/lang/AbstractStringBuilder", "newCapacity", "(I)I"⟩, Cond.sameMethod "java/lang/AbstractStringBuilder" "java/lang/AbstractStringBuilder" "newCapacity" "(I)I", Cond.selects RJ4 ⟨"java/lang/AbstractStringBuilder", "newCapacity", "(I)I"⟩ yJ5_newCapacity_0f7a4, Cond.instanceMethod yJ5_newCapacity_0f7a4, Cond.code yJ5_newCapacity_0f7a4 cJ5_newCapacity_0f7a4 6 (some .int), Cond.constant RJ5 39 (2147483647), Cond.methodLink RJ5 114 yJ8_newLength_cabcc, Cond.static yJ8_newLength_cabcc, Cond.initialized RJ8, Cond.code yJ8_newLength_cabcc cJ8_newLength_cabcc 4 (some .int), Cond.methodLink RJ8 194 Lib.Math.max.name, Cond.static Lib.Math.max.name, Cond.initialized "java/lang/Math", Cond.code Lib.Math.max.name Lib.Math.max.code 2 (some .int), Cond.constant RJ8 200 (2147483639), Cond.methodLink RJ8 201 yJ8_hugeLength_7cf53, Cond.static yJ8_hugeLength_7cf53, Cond.code yJ8_hugeLength_7cf53 cJ8_hugeLength_7cf53 3 (some .int), Cond.methodLink RJ5 108 yJ7_copyOf_9075b, Cond.static yJ7_copyOf_9075b, Cond.initialized RJ7, Cond.code yJ7_copyOf_9075b cJ7_copyOf_9075b 3 (some (.array .byte)), Cond.methodLink RJ7 310 ⟨"[B", "clone", "()Ljava/lang/Object;"⟩]
def wsL_command_r4 : List Cond := [Cond.sameMethod "[B" "java/lang/Object" "clone" "()Ljava/lang/Object;", Cond.native ⟨"java/lang/Object", "clone", "()Ljava/lang/Object;"⟩, Cond.instanceMethod ⟨"java/lang/Object", "clone", "()Ljava/lang/Object;"⟩, Cond.selects "[B" ⟨"[B", "clone", "()Ljava/lang/Object;"⟩ ⟨"java/lang/Object", "clone", "()Ljava/lang/Object;"⟩, Cond.classLink RJ7 311 "[B", Cond.arrayClass .byte, Cond.methodLink RJ7 304 Lib.Math.min.name, Cond.static Lib.Math.min.name, Cond.code Lib.Math.min.name Lib.Math.min.code 2 (some .int), Cond.methodLink RJ7 150 arraycopyName, Cond.native arraycopyName, Cond.static arraycopyName, Cond.initialized "java/lang/System", Cond.methodLink RJ5 83 ⟨"java/lang/AbstractStringBuilder", "isLatin1", "()Z"⟩, Cond.sameMethod "java/lang/AbstractStringBuilder" "java/lang/AbstractStringBuilder" "isLatin1" "()Z", Cond.selects RJ4 ⟨"java/lang/AbstractStringBuilder", "isLatin1", "()Z"⟩ yJ5_isLatin1_aae02, Cond.instanceMethod yJ5_isLatin1_aae02, Cond.code yJ5_isLatin1_aae02 cJ5_isLatin1_aae02 1 (some .boolean), Cond.fieldLink RJ5 18 "java/lang/String" "COMPACT_STRINGS" "Z", Cond.methodLink RJ5 133 yJ1_fillNull_b72d1, Cond.static yJ1_fillNull_b72d1, Cond.initialized RJ1, Cond.code yJ1_fillNull_b72d1 cJ1_fillNull_b72d1 3 none, Cond.methodLink RJ1 236 yJ7_fill_eb02e]
def wsL_command_r5 : List Cond := [Cond.static yJ7_fill_eb02e, Cond.code yJ7_fill_eb02e cJ7_fill_eb02e 5 none, Cond.methodLink RJ7 13 yJ7_rangeCheck_23922, Cond.static yJ7_rangeCheck_23922, Cond.code yJ7_rangeCheck_23922 cJ7_rangeCheck_23922 3 none, Cond.classLink RJ7 45 RJ4, Cond.instantiable RJ4 4, Cond.classLink RJ7 68 RJx00060, Cond.instantiable RJx00060 6, Cond.initialized RJx00060, Cond.methodLink RJ5 137 yJ2_fillNull_b72d1, Cond.static yJ2_fillNull_b72d1, Cond.initialized RJ2, Cond.code yJ2_fillNull_b72d1 cJ2_fillNull_b72d1 3 none, Cond.methodLink RJ2 380 yJ7_fill_eb02e, Cond.methodLink RX6 217 yX3_firstNode, Cond.instanceMethod yX3_firstNode, Cond.selects RX3 yX3_firstNode yX3_firstNode, Cond.code yX3_firstNode cX3_firstNode 2 (some .int), Cond.fieldLink RX3 15 "HarnessRows$Trees" "firstNodes" "[I", Cond.methodLink RX6 220 yX6_writeNode, Cond.instanceMethod yX6_writeNode, Cond.selects RX6 yX6_writeNode yX6_writeNode, Cond.code yX6_writeNode cX6_writeNode 2 none]
def wsL_command_r6 : List Cond := [Cond.methodLink RX6 204 yX3_cavitiesOf, Cond.instanceMethod yX3_cavitiesOf, Cond.selects RX3 yX3_cavitiesOf yX3_cavitiesOf, Cond.code yX3_cavitiesOf cX3_cavitiesOf 2 (some .int), Cond.fieldLink RX3 9 "HarnessRows$Trees" "cavities" "[I", Cond.methodLink RX6 223 yJ4_append_cf468, Cond.instanceMethod yJ4_append_cf468, Cond.selects RJ4 yJ4_append_cf468 yJ4_append_cf468, Cond.code yJ4_append_cf468 cJ4_append_cf468 2 (some (.object "java/lang/StringBuilder")), Cond.methodLink RJ4 50 yJ5_append_3fe6f, Cond.sameMethod "java/lang/AbstractStringBuilder" "java/lang/AbstractStringBuilder" "append" "(C)Ljava/lang/AbstractStringBuilder;", Cond.instanceMethod yJ5_append_3fe6f, Cond.code yJ5_append_3fe6f cJ5_append_3fe6f 2 (some (.object "java/lang/AbstractStringBuilder")), Cond.methodLink RJ5 191 yJ1_canEncode_fc78d, Cond.static yJ1_canEncode_fc78d, Cond.code yJ1_canEncode_fc78d cJ1_canEncode_fc78d 1 (some .boolean), Cond.methodLink RJ5 195 ⟨"java/lang/AbstractStringBuilder", "inflate", "()V"⟩, Cond.sameMethod "java/lang/AbstractStringBuilder" "java/lang/AbstractStringBuilder" "inflate" "()V", Cond.selects RJ4 ⟨"java/lang/AbstractStringBuilder", "inflate", "()V"⟩ yJ5_inflate_da8c8, Cond.instanceMethod yJ5_inflate_da8c8, Cond.code yJ5_inflate_da8c8 cJ5_inflate_da8c8 2 none, Cond.methodLink RJ5 26 yJ2_newBytesFor_77867, Cond.static yJ2_newBytesFor_77867, Cond.code yJ2_newBytesFor_77867 cJ2_newBytesFor_77867 1 (some (.array .byte))]
def wsL_command_r7 : List Cond := [Cond.methodLink RJ2 11 yJ2_newBytesLength_0f7a4, Cond.static yJ2_newBytesLength_0f7a4, Cond.code yJ2_newBytesLength_0f7a4 cJ2_newBytesLength_0f7a4 1 (some .int), Cond.constant RJ2 20 (1073741823), Cond.methodLink RJ5 125 yJ1_inflate_0e8fd, Cond.static yJ1_inflate_0e8fd, Cond.code yJ1_inflate_0e8fd cJ1_inflate_0e8fd 5 none, Cond.methodLink RJ1 240 yJ2_inflate_0e8fd, Cond.static yJ2_inflate_0e8fd, Cond.code yJ2_inflate_0e8fd cJ2_inflate_0e8fd 6 none, Cond.methodLink RJ2 173 yJ2_checkBoundsOffCount_d044e, Cond.static yJ2_checkBoundsOffCount_d044e, Cond.code yJ2_checkBoundsOffCount_d044e cJ2_checkBoundsOffCount_d044e 3 none, Cond.methodLink RJ2 48 yJ2_length_9d52b, Cond.static yJ2_length_9d52b, Cond.code yJ2_length_9d52b cJ2_length_9d52b 1 (some .int), Cond.methodLink RJ2 419 yJ0_checkBoundsOffCount_cabcc, Cond.static yJ0_checkBoundsOffCount_cabcc, Cond.initialized RJ0, Cond.code yJ0_checkBoundsOffCount_cabcc cJ0_checkBoundsOffCount_cabcc 3 (some .int), Cond.fieldLink RJ0 1053 "jdk/internal/util/Preconditions" "SIOOBE_FORMATTER" "Ljava/util/function/BiFunction;", Cond.methodLink RJ0 1065 yJ3_checkFromIndexSize_8c36e, Cond.static yJ3_checkFromIndexSize_8c36e, Cond.initialized RJ3]
def wsL_command_r8 : List Cond := [Cond.code yJ3_checkFromIndexSize_8c36e cJ3_checkFromIndexSize_8c36e 4 (some .int), Cond.methodLink RJ2 111 yJ2_putChar_b72d1, Cond.static yJ2_putChar_b72d1, Cond.code yJ2_putChar_b72d1 cJ2_putChar_b72d1 3 none, Cond.fieldLink RJ2 44 "java/lang/StringUTF16" "$assertionsDisabled" "Z", Cond.fieldLink RJ2 59 "java/lang/StringUTF16" "HI_BYTE_SHIFT" "I", Cond.fieldLink RJ2 63 "java/lang/StringUTF16" "LO_BYTE_SHIFT" "I", Cond.methodLink RJ5 197 yJ2_putCharSB_b72d1, Cond.static yJ2_putCharSB_b72d1, Cond.code yJ2_putCharSB_b72d1 cJ2_putCharSB_b72d1 3 none, Cond.methodLink RJ2 67 yJ2_checkIndex_2214a, Cond.static yJ2_checkIndex_2214a, Cond.code yJ2_checkIndex_2214a cJ2_checkIndex_2214a 2 none, Cond.methodLink RJ2 414 yJ0_checkIndex_df160, Cond.static yJ0_checkIndex_df160, Cond.code yJ0_checkIndex_df160 cJ0_checkIndex_df160 2 none, Cond.methodLink RJ0 1059 yJ3_checkIndex_8e157, Cond.static yJ3_checkIndex_8e157, Cond.code yJ3_checkIndex_8e157 cJ3_checkIndex_8e157 3 (some .int), Cond.methodLink RX6 233 yJ4_append_bf812, Cond.instanceMethod yJ4_append_bf812, Cond.selects RJ4 yJ4_append_bf812 yJ4_append_bf812, Cond.code yJ4_append_bf812 cJ4_append_bf812 2 (some (.object "java/lang/StringBuilder")), Cond.methodLink RJ4 53 yJ5_append_c97b9]
def wsL_command_r9 : List Cond := [Cond.sameMethod "java/lang/AbstractStringBuilder" "java/lang/AbstractStringBuilder" "append" "(I)Ljava/lang/AbstractStringBuilder;", Cond.instanceMethod yJ5_append_c97b9, Cond.code yJ5_append_c97b9 cJ5_append_c97b9 4 (some (.object "java/lang/AbstractStringBuilder")), Cond.methodLink RJ5 245 yJ6_stringSize_0f7a4, Cond.static yJ6_stringSize_0f7a4, Cond.initialized RJ6, Cond.code yJ6_stringSize_0f7a4 cJ6_stringSize_0f7a4 4 (some .int), Cond.methodLink RJ5 248 yJ6_getChars_ba4f3, Cond.static yJ6_getChars_ba4f3, Cond.code yJ6_getChars_ba4f3 cJ6_getChars_ba4f3 7 (some .int), Cond.fieldLink RJ6 83 "java/lang/Integer" "DigitOnes" "[B", Cond.fieldLink RJ6 87 "java/lang/Integer" "DigitTens" "[B", Cond.methodLink RJ5 251 yJ2_getChars_46870, Cond.static yJ2_getChars_46870, Cond.code yJ2_getChars_46870 cJ2_getChars_46870 5 (some .int), Cond.methodLink RJ2 96 yJ2_checkBoundsBeginEnd_d044e, Cond.static yJ2_checkBoundsBeginEnd_d044e, Cond.code yJ2_checkBoundsBeginEnd_d044e cJ2_checkBoundsBeginEnd_d044e 3 none, Cond.methodLink RJ2 241 yJ0_checkBoundsBeginEnd_23922, Cond.static yJ0_checkBoundsBeginEnd_23922, Cond.code yJ0_checkBoundsBeginEnd_23922 cJ0_checkBoundsBeginEnd_23922 3 none, Cond.methodLink RJ0 1062 yJ3_checkFromToIndex_8c36e, Cond.static yJ3_checkFromToIndex_8c36e, Cond.code yJ3_checkFromToIndex_8c36e cJ3_checkFromToIndex_8c36e 4 (some .int)]
def wsL_command_r10 : List Cond := [Cond.methodLink RJ2 393 yJ2_getChars_ba4f3, Cond.static yJ2_getChars_ba4f3, Cond.code yJ2_getChars_ba4f3 cJ2_getChars_ba4f3 7 (some .int), Cond.fieldLink RJ2 403 "java/lang/Integer" "DigitOnes" "[B", Cond.fieldLink RJ2 407 "java/lang/Integer" "DigitTens" "[B", Cond.methodLink RX6 227 yX3_otherNode, Cond.instanceMethod yX3_otherNode, Cond.selects RX3 yX3_otherNode yX3_otherNode, Cond.code yX3_otherNode cX3_otherNode 2 (some .int), Cond.fieldLink RX3 18 "HarnessRows$Trees" "otherNodes" "[I", Cond.methodLink RX6 230 yX3_bundleLength, Cond.instanceMethod yX3_bundleLength, Cond.selects RX3 yX3_bundleLength yX3_bundleLength, Cond.code yX3_bundleLength cX3_bundleLength 2 (some .int), Cond.fieldLink RX3 21 "HarnessRows$Trees" "lengths" "[I", Cond.methodLink RX6 183 yJ4_length_8abf5, Cond.instanceMethod yJ4_length_8abf5, Cond.selects RJ4 yJ4_length_8abf5 yJ4_length_8abf5, Cond.code yJ4_length_8abf5 cJ4_length_8abf5 1 (some .int), Cond.methodLink RJ4 343 yJ5_length_8abf5, Cond.sameMethod "java/lang/AbstractStringBuilder" "java/lang/AbstractStringBuilder" "length" "()I", Cond.instanceMethod yJ5_length_8abf5, Cond.code yJ5_length_8abf5 cJ5_length_8abf5 1 (some .int), Cond.methodLink RX6 186 yJ4_charAt_5068e]
def wsL_command_r11 : List Cond := [Cond.instanceMethod yJ4_charAt_5068e, Cond.selects RJ4 yJ4_charAt_5068e yJ4_charAt_5068e, Cond.code yJ4_charAt_5068e cJ4_charAt_5068e 2 (some .char), Cond.methodLink RJ4 329 yJ5_charAt_5068e, Cond.sameMethod "java/lang/AbstractStringBuilder" "java/lang/AbstractStringBuilder" "charAt" "(I)C", Cond.instanceMethod yJ5_charAt_5068e, Cond.code yJ5_charAt_5068e cJ5_charAt_5068e 5 (some .char), Cond.methodLink RJ5 138 Lib.Math.min.name, Cond.methodLink RJ5 144 yJ0_checkIndex_df160, Cond.methodLink RJ5 148 yJ2_getChar_3b067, Cond.static yJ2_getChar_3b067, Cond.code yJ2_getChar_3b067 cJ2_getChar_3b067 2 (some .char)]
def wsL_command : List Cond := .codeWith yL_command cL_command 5 (some .int) [(0, 10, 13, 19)] :: ((wsL_command_r1 ++ (wsL_command_r2 ++ (wsL_command_r3 ++ (wsL_command_r4 ++ (wsL_command_r5 ++ (wsL_command_r6 ++ (wsL_command_r7 ++ (wsL_command_r8 ++ (wsL_command_r9 ++ (wsL_command_r10 ++ wsL_command_r11)))))))))) ++ wsX60 ++ wsX30 ++ wsJx7c7330 ++ wsJ40 ++ wsJx000600 ++ (vx_atM "java/lang/ArrayIndexOutOfBoundsException" ["java/lang/IndexOutOfBoundsException", "java/lang/RuntimeException", "java/lang/Exception"]).filter goodWord ++ (vx_atS RX6 194 "java/lang/IndexOutOfBoundsException" ["java/lang/RuntimeException", "java/lang/Exception"]).filter goodWord)
def wsL_law0_r1 : List Cond := [Cond.classLink RL 8 RX6, Cond.instantiable RX6 9, Cond.initialized RX6, Cond.classLink RL 73 RX7, Cond.instantiable RX7 34, Cond.initialized RX7, Cond.arrayClass .long, Cond.constantLong RL 90 (4294967295), Cond.methodLink RL 72 yX6_init, Cond.instanceMethod yX6_init, Cond.code yX6_init cX6_init 1 none, Cond.methodLink RX6 1 objectInit, Cond.instanceMethod objectInit, Cond.code objectInit ⟨#[0xb1]⟩ 1 none, Cond.classLink RX6 7 RX3, Cond.instantiable RX3 7, Cond.initialized RX3, Cond.fieldLink RX6 10 "HarnessRows" "trees" "LHarnessRows$Trees;", Cond.classLink RX6 16 RX5, Cond.instantiable RX5 6, Cond.initialized RX5, Cond.fieldLink RX6 19 "HarnessRows" "wires" "LHarnessRows$Wires;", Cond.classLink RX6 23 RX2, Cond.instantiable RX2 3]
def wsL_law0_r2 : List Cond := [Cond.initialized RX2, Cond.fieldLink RX6 26 "HarnessRows" "rows" "LHarnessRows$Table;", Cond.classLink RX6 30 RX0, Cond.instantiable RX0 8, Cond.initialized RX0, Cond.fieldLink RX6 33 "HarnessRows" "reels" "LHarnessRows$Reels;", Cond.classLink RX6 37 RX1, Cond.instantiable RX1 3, Cond.initialized RX1, Cond.fieldLink RX6 40 "HarnessRows" "splices" "LHarnessRows$Splices;", Cond.classLink RX6 44 RX4, Cond.instantiable RX4 3, Cond.initialized RX4, Cond.fieldLink RX6 47 "HarnessRows" "variants" "LHarnessRows$Variants;", Cond.classLink RX6 51 RJ4, Cond.instantiable RJ4 4, Cond.initialized RJ4, Cond.fieldLink RX6 54 "HarnessRows" "line" "Ljava/lang/StringBuilder;", Cond.fieldLink RX6 58 "HarnessRows" "slackAbove" "J", Cond.fieldLink RX6 62 "HarnessRows" "slackBelow" "J", Cond.instanceMethod yX3_init, Cond.code yX3_init cX3_init 1 none, Cond.methodLink RX3 3 objectInit, Cond.arrayClass .int]
def wsL_law0_r3 : List Cond := [Cond.fieldLink RX3 9 "HarnessRows$Trees" "cavities" "[I", Cond.fieldLink RX3 15 "HarnessRows$Trees" "firstNodes" "[I", Cond.fieldLink RX3 18 "HarnessRows$Trees" "otherNodes" "[I", Cond.fieldLink RX3 21 "HarnessRows$Trees" "lengths" "[I", Cond.fieldLink RX3 24 "HarnessRows$Trees" "ways" "[J", Cond.fieldLink RX3 28 "HarnessRows$Trees" "nodes" "I", Cond.fieldLink RX3 32 "HarnessRows$Trees" "bundles" "I", Cond.instanceMethod yX5_init, Cond.code yX5_init cX5_init 1 none, Cond.methodLink RX5 3 objectInit, Cond.fieldLink RX5 9 "HarnessRows$Wires" "firstEnds" "[I", Cond.fieldLink RX5 15 "HarnessRows$Wires" "otherEnds" "[I", Cond.fieldLink RX5 18 "HarnessRows$Wires" "colours" "[I", Cond.fieldLink RX5 21 "HarnessRows$Wires" "loads" "[J", Cond.fieldLink RX5 25 "HarnessRows$Wires" "drops" "[J", Cond.fieldLink RX5 28 "HarnessRows$Wires" "wireCount" "I", Cond.instanceMethod yX2_init, Cond.code yX2_init cX2_init 1 none, Cond.methodLink RX2 3 objectInit, Cond.fieldLink RX2 9 "HarnessRows$Table" "areas" "[J", Cond.fieldLink RX2 15 "HarnessRows$Table" "milliamperes" "[J", Cond.fieldLink RX2 18 "HarnessRows$Table" "microohms" "[J", Cond.methodLink RX6 32 yX0_init, Cond.instanceMethod yX0_init]
def wsL_law0_r4 : List Cond := [Cond.code yX0_init cX0_init 1 none, Cond.methodLink RX0 3 objectInit, Cond.fieldLink RX0 9 "HarnessRows$Reels" "reelOfWire" "[I", Cond.fieldLink RX0 15 "HarnessRows$Reels" "wireOfPiece" "[I", Cond.fieldLink RX0 18 "HarnessRows$Reels" "cuts" "[J", Cond.fieldLink RX0 22 "HarnessRows$Reels" "filled" "[J", Cond.fieldLink RX0 25 "HarnessRows$Reels" "trial" "[I", Cond.fieldLink RX0 28 "HarnessRows$Reels" "pieces" "I", Cond.fieldLink RX0 32 "HarnessRows$Reels" "fewest" "I", Cond.fieldLink RX0 35 "HarnessRows$Reels" "reelLength" "J", Cond.methodLink RX0 39 yJ7_fill_53178, Cond.static yJ7_fill_53178, Cond.initialized RJ7, Cond.code yJ7_fill_53178 cJ7_fill_53178 4 none, Cond.methodLink RX6 39 yX1_init, Cond.instanceMethod yX1_init, Cond.code yX1_init cX1_init 2 none, Cond.methodLink RX1 3 objectInit, Cond.fieldLink RX1 9 "HarnessRows$Splices" "partners" "[I", Cond.fieldLink RX1 15 "HarnessRows$Splices" "groups" "[I", Cond.fieldLink RX1 18 "HarnessRows$Splices" "spliceCount" "I", Cond.instanceMethod yX4_init, Cond.code yX4_init cX4_init 1 none, Cond.methodLink RX4 3 objectInit]
def wsL_law0_r5 : List Cond := [Cond.fieldLink RX4 9 "HarnessRows$Variants" "toldWires" "[I", Cond.fieldLink RX4 15 "HarnessRows$Variants" "onWires" "[I", Cond.fieldLink RX4 18 "HarnessRows$Variants" "variantCount" "I", Cond.methodLink RX6 53 yJ4_init_da8c8, Cond.instanceMethod yJ4_init_da8c8, Cond.code yJ4_init_da8c8 cJ4_init_da8c8 1 none, Cond.methodLink RJ4 1 yJ5_init_d00df, Cond.instanceMethod yJ5_init_d00df, Cond.initialized RJ5, Cond.code yJ5_init_d00df cJ5_init_d00df 2 none, Cond.methodLink RJ5 3 objectInit, Cond.fieldLink RJ5 18 "java/lang/String" "COMPACT_STRINGS" "Z", Cond.arrayClass .byte, Cond.fieldLink RJ5 15 "java/lang/AbstractStringBuilder" "value" "[B", Cond.fieldLink RJ5 22 "java/lang/AbstractStringBuilder" "coder" "B", Cond.methodLink RJ5 26 yJ2_newBytesFor_77867, Cond.static yJ2_newBytesFor_77867, Cond.initialized RJ2, Cond.code yJ2_newBytesFor_77867 cJ2_newBytesFor_77867 1 (some (.array .byte)), Cond.methodLink RJ2 11 yJ2_newBytesLength_0f7a4, Cond.static yJ2_newBytesLength_0f7a4, Cond.code yJ2_newBytesLength_0f7a4 cJ2_newBytesLength_0f7a4 1 (some .int), Cond.constant RJ2 20 (1073741823), Cond.methodLink RL 75 yX7_init]
def wsL_law0_r6 : List Cond := [Cond.instanceMethod yX7_init, Cond.code yX7_init cX7_init 2 none, Cond.methodLink RX7 1 objectInit, Cond.fieldLink RX7 7 "HarnessRowsModel" "cavities" "[I", Cond.fieldLink RX7 13 "HarnessRowsModel" "far" "[J", Cond.fieldLink RX7 17 "HarnessRowsModel" "bundleA" "[I", Cond.fieldLink RX7 20 "HarnessRowsModel" "bundleB" "[I", Cond.fieldLink RX7 23 "HarnessRowsModel" "bundleLength" "[J", Cond.fieldLink RX7 26 "HarnessRowsModel" "endA" "[I", Cond.fieldLink RX7 29 "HarnessRowsModel" "endB" "[I", Cond.fieldLink RX7 32 "HarnessRowsModel" "loads" "[J", Cond.fieldLink RX7 35 "HarnessRowsModel" "drops" "[J", Cond.fieldLink RX7 38 "HarnessRowsModel" "wireAt" "[I", Cond.fieldLink RX7 41 "HarnessRowsModel" "slackBelow" "J", Cond.arrayClass .boolean, Cond.fieldLink RX7 45 "HarnessRowsModel" "told" "[Z", Cond.fieldLink RX7 49 "HarnessRowsModel" "areas" "[J", Cond.fieldLink RX7 52 "HarnessRowsModel" "amperes" "[J", Cond.fieldLink RX7 55 "HarnessRowsModel" "ohms" "[J", Cond.fieldLink RX7 58 "HarnessRowsModel" "reels" "[I", Cond.fieldLink RX7 61 "HarnessRowsModel" "spliceA" "[I", Cond.fieldLink RX7 64 "HarnessRowsModel" "spliceB" "[I", Cond.fieldLink RX7 67 "HarnessRowsModel" "group" "[I", Cond.fieldLink RX7 70 "HarnessRowsModel" "marks" "[I"]
def wsL_law0_r7 : List Cond := [Cond.fieldLink RX7 73 "HarnessRowsModel" "packed" "[I", Cond.fieldLink RX7 76 "HarnessRowsModel" "tried" "[I", Cond.fieldLink RX7 79 "HarnessRowsModel" "used" "[J", Cond.constantLong RX7 82 (-1), Cond.methodLink RL 76 yL_connector, Cond.static yL_connector, Cond.initialized RL, Cond.codeWith yL_connector cL_connector 4 (some .int) [(0, 9, 12, 13)], Cond.classLink RL 13 "java/lang/IllegalArgumentException", Cond.methodLink RL 7 yX6_connector, Cond.instanceMethod yX6_connector, Cond.selects RX6 yX6_connector yX6_connector, Cond.code yX6_connector cX6_connector 2 (some .int), Cond.constantLong RX6 65 (16), Cond.methodLink RX6 67 yX6_checkNumber, Cond.static yX6_checkNumber, Cond.code yX6_checkNumber cX6_checkNumber 6 none, Cond.classLink RX6 199 "java/lang/IllegalArgumentException", Cond.initialized "java/lang/IllegalArgumentException", Cond.methodLink RX6 71 yX3_addNode, Cond.instanceMethod yX3_addNode, Cond.selects RX3 yX3_addNode yX3_addNode, Cond.code yX3_addNode cX3_addNode 3 (some .int), Cond.constantLong RX3 35 (-1)]
def wsL_law0_r8 : List Cond := [Cond.methodLink RX3 37 yX3_setWay, Cond.instanceMethod yX3_setWay, Cond.selects RX3 yX3_setWay yX3_setWay, Cond.code yX3_setWay cX3_setWay 5 none, Cond.methodLink RL 81 yX7_connector, Cond.instanceMethod yX7_connector, Cond.selects RX7 yX7_connector yX7_connector, Cond.code yX7_connector cX7_connector 2 (some .int), Cond.constantLong RX7 98 (16), Cond.fieldLink RX7 84 "HarnessRowsModel" "thrown" "I", Cond.methodLink RX7 100 yX7_within, Cond.static yX7_within, Cond.code yX7_within cX7_within 6 (some .boolean), Cond.methodLink RX7 104 yX7_addNode, Cond.instanceMethod yX7_addNode, Cond.selects RX7 yX7_addNode yX7_addNode, Cond.code yX7_addNode cX7_addNode 2 (some .int), Cond.fieldLink RX7 88 "HarnessRowsModel" "nodes" "I", Cond.methodLink RL 82 yX7_thrown, Cond.instanceMethod yX7_thrown, Cond.selects RX7 yX7_thrown yX7_thrown, Cond.code yX7_thrown cX7_thrown 1 (some .int), Cond.methodLink RL 86 yX6_node, Cond.instanceMethod yX6_node]
def wsL_law0_r9 : List Cond := [Cond.selects RX6 yX6_node yX6_node, Cond.code yX6_node cX6_node 1 (some .int), Cond.methodLink RL 89 yX7_node, Cond.instanceMethod yX7_node, Cond.selects RX7 yX7_node yX7_node, Cond.code yX7_node cX7_node 1 (some .int), Cond.methodLink RL 92 yL_bundle, Cond.static yL_bundle, Cond.codeWith yL_bundle cL_bundle 7 (some .int) [(0, 12, 15, 19), (0, 12, 19, 13)], Cond.classLink RL 19 "java/lang/IndexOutOfBoundsException", Cond.methodLink RL 15 yX6_bundle, Cond.instanceMethod yX6_bundle, Cond.selects RX6 yX6_bundle yX6_bundle, Cond.code yX6_bundle cX6_bundle 5 (some .int), Cond.constantLong RX6 83 (100000), Cond.methodLink RX6 75 yX3_nodeCount, Cond.instanceMethod yX3_nodeCount, Cond.selects RX3 yX3_nodeCount yX3_nodeCount, Cond.code yX3_nodeCount cX3_nodeCount 1 (some .int), Cond.methodLink RX6 79 yX6_checkIndex, Cond.static yX6_checkIndex, Cond.code yX6_checkIndex cX6_checkIndex 2 none, Cond.classLink RX6 190 "java/lang/IndexOutOfBoundsException", Cond.initialized "java/lang/IndexOutOfBoundsException"]
def wsL_law0_r10 : List Cond := [Cond.methodLink RX6 85 yX3_addBundle, Cond.instanceMethod yX3_addBundle, Cond.selects RX3 yX3_addBundle yX3_addBundle, Cond.code yX3_addBundle cX3_addBundle 5 (some .int), Cond.methodLink RX3 41 yX3_wayBetween, Cond.instanceMethod yX3_wayBetween, Cond.selects RX3 yX3_wayBetween yX3_wayBetween, Cond.code yX3_wayBetween cX3_wayBetween 3 (some .long), Cond.methodLink RX3 45 yX3_joinTrees, Cond.instanceMethod yX3_joinTrees, Cond.selects RX3 yX3_joinTrees yX3_joinTrees, Cond.code yX3_joinTrees cX3_joinTrees 9 none, Cond.methodLink RX3 48 yX3_treeOf, Cond.instanceMethod yX3_treeOf, Cond.selects RX3 yX3_treeOf yX3_treeOf, Cond.code yX3_treeOf cX3_treeOf 4 (some .int), Cond.static yX6_hasBit, Cond.code yX6_hasBit cX6_hasBit 2 (some .boolean), Cond.methodLink RL 95 yX7_bundle, Cond.instanceMethod yX7_bundle, Cond.selects RX7 yX7_bundle yX7_bundle, Cond.code yX7_bundle cX7_bundle 11 (some .int), Cond.constantLong RX7 108 (100000), Cond.fieldLink RX7 110 "HarnessRowsModel" "bundles" "I"]
def wsL_law0_r11 : List Cond := [Cond.methodLink RX7 91 yX7_isNode, Cond.instanceMethod yX7_isNode, Cond.selects RX7 yX7_isNode yX7_isNode, Cond.code yX7_isNode cX7_isNode 2 (some .boolean), Cond.methodLink RL 96 yL_wire, Cond.static yL_wire, Cond.codeWith yL_wire cL_wire 7 (some .int) [(0, 14, 17, 19)], Cond.methodLink RL 21 yX6_wire, Cond.instanceMethod yX6_wire, Cond.selects RX6 yX6_wire yX6_wire, Cond.code yX6_wire cX6_wire 5 (some .int), Cond.methodLink RX6 89 yX6_checkCavity, Cond.instanceMethod yX6_checkCavity, Cond.selects RX6 yX6_checkCavity yX6_checkCavity, Cond.code yX6_checkCavity cX6_checkCavity 3 none, Cond.methodLink RX6 204 yX3_cavitiesOf, Cond.instanceMethod yX3_cavitiesOf, Cond.selects RX3 yX3_cavitiesOf yX3_cavitiesOf, Cond.code yX3_cavitiesOf cX3_cavitiesOf 2 (some .int), Cond.methodLink RX6 92 yX6_endOf, Cond.static yX6_endOf, Cond.code yX6_endOf cX6_endOf 2 (some .int), Cond.methodLink RX6 96 yX5_add, Cond.instanceMethod yX5_add]
def wsL_law0_r12 : List Cond := [Cond.selects RX5 yX5_add yX5_add, Cond.code yX5_add cX5_add 3 (some .int), Cond.constantLong RX5 43 (1000000), Cond.methodLink RX5 32 yX5_wireAt, Cond.instanceMethod yX5_wireAt, Cond.selects RX5 yX5_wireAt yX5_wireAt, Cond.code yX5_wireAt cX5_wireAt 3 (some .int), Cond.static yX6_nodeOf, Cond.code yX6_nodeOf cX6_nodeOf 1 (some .int), Cond.methodLink RX5 39 yX5_freeColour, Cond.instanceMethod yX5_freeColour, Cond.selects RX5 yX5_freeColour yX5_freeColour, Cond.code yX5_freeColour cX5_freeColour 5 (some .int), Cond.methodLink RX5 45 yX5_endsAt, Cond.instanceMethod yX5_endsAt, Cond.selects RX5 yX5_endsAt yX5_endsAt, Cond.code yX5_endsAt cX5_endsAt 3 (some .boolean), Cond.methodLink RL 99 yX7_wire, Cond.instanceMethod yX7_wire, Cond.selects RX7 yX7_wire yX7_wire, Cond.code yX7_wire cX7_wire 7 (some .int), Cond.fieldLink RX7 95 "HarnessRowsModel" "wires" "I", Cond.constantLong RX7 117 (1000000), Cond.methodLink RX7 113 yX7_isCavity]
def wsL_law0_r13 : List Cond := [Cond.instanceMethod yX7_isCavity, Cond.selects RX7 yX7_isCavity yX7_isCavity, Cond.code yX7_isCavity cX7_isCavity 3 (some .boolean), Cond.methodLink RL 100 yL_load, Cond.static yL_load, Cond.codeWith yL_load cL_load 8 (some .int) [(0, 20, 23, 19), (0, 20, 27, 13)], Cond.methodLink RL 25 yX6_load, Cond.instanceMethod yX6_load, Cond.selects RX6 yX6_load yX6_load, Cond.code yX6_load cX6_load 6 (some .boolean), Cond.constantLong RX6 102 (1000000), Cond.methodLink RX6 99 yX5_count, Cond.instanceMethod yX5_count, Cond.selects RX5 yX5_count yX5_count, Cond.code yX5_count cX5_count 1 (some .int), Cond.methodLink RX6 104 yX5_tellLoad, Cond.instanceMethod yX5_tellLoad, Cond.selects RX5 yX5_tellLoad yX5_tellLoad, Cond.code yX5_tellLoad cX5_tellLoad 7 (some .boolean), Cond.methodLink RL 103 yX7_load, Cond.instanceMethod yX7_load, Cond.selects RX7 yX7_load yX7_load, Cond.code yX7_load cX7_load 6 (some .boolean), Cond.methodLink RX7 119 yX7_isWire]
def wsL_law0_r14 : List Cond := [Cond.instanceMethod yX7_isWire, Cond.selects RX7 yX7_isWire yX7_isWire, Cond.code yX7_isWire cX7_isWire 2 (some .boolean), Cond.methodLink RL 104 yL_gauge, Cond.static yL_gauge, Cond.codeWith yL_gauge cL_gauge 4 (some .int) [(0, 9, 12, 19)], Cond.methodLink RL 29 yX6_gauge, Cond.instanceMethod yX6_gauge, Cond.selects RX6 yX6_gauge yX6_gauge, Cond.code yX6_gauge cX6_gauge 4 (some .int), Cond.constantLong RX6 112 (-1), Cond.methodLink RX6 108 yX6_cutLength, Cond.instanceMethod yX6_cutLength, Cond.selects RX6 yX6_cutLength yX6_cutLength, Cond.code yX6_cutLength cX6_cutLength 4 (some .long), Cond.methodLink RX6 167 yX5_firstEnd, Cond.instanceMethod yX5_firstEnd, Cond.selects RX5 yX5_firstEnd yX5_firstEnd, Cond.code yX5_firstEnd cX5_firstEnd 2 (some .int), Cond.methodLink RX6 207 yX6_nodeOf, Cond.methodLink RX6 170 yX5_otherEnd, Cond.instanceMethod yX5_otherEnd, Cond.selects RX5 yX5_otherEnd yX5_otherEnd, Cond.code yX5_otherEnd cX5_otherEnd 2 (some .int)]
def wsL_law0_r15 : List Cond := [Cond.methodLink RX6 210 yX3_wayBetween, Cond.methodLink RX6 114 yX5_loadOf, Cond.instanceMethod yX5_loadOf, Cond.selects RX5 yX5_loadOf yX5_loadOf, Cond.code yX5_loadOf cX5_loadOf 2 (some .long), Cond.methodLink RX6 117 yX5_dropOf, Cond.instanceMethod yX5_dropOf, Cond.selects RX5 yX5_dropOf yX5_dropOf, Cond.code yX5_dropOf cX5_dropOf 2 (some .long), Cond.methodLink RX6 120 yX2_leastThatWillDo, Cond.instanceMethod yX2_leastThatWillDo, Cond.selects RX2 yX2_leastThatWillDo yX2_leastThatWillDo, Cond.code yX2_leastThatWillDo cX2_leastThatWillDo 11 (some .int), Cond.constantLong RX2 21 (1000001), Cond.methodLink RX2 23 yX2_willDo, Cond.instanceMethod yX2_willDo, Cond.selects RX2 yX2_willDo yX2_willDo, Cond.code yX2_willDo cX2_willDo 8 (some .boolean), Cond.constantLong RX2 27 (1000000000), Cond.methodLink RL 106 yX7_gauge, Cond.instanceMethod yX7_gauge, Cond.selects RX7 yX7_gauge yX7_gauge, Cond.code yX7_gauge cX7_gauge 7 (some .int), Cond.constantLong RX7 135 (1000000000)]
def wsL_law0_r16 : List Cond := [Cond.methodLink RX7 127 yX7_lengthOf, Cond.instanceMethod yX7_lengthOf, Cond.selects RX7 yX7_lengthOf yX7_lengthOf, Cond.code yX7_lengthOf cX7_lengthOf 4 (some .long), Cond.fieldLink RX7 124 "HarnessRowsModel" "slackAbove" "J", Cond.methodLink RL 107 yL_table, Cond.static yL_table, Cond.codeWith yL_table cL_table 10 (some .int) [(0, 22, 25, 19), (0, 22, 29, 13)], Cond.methodLink RL 32 yX6_table, Cond.instanceMethod yX6_table, Cond.selects RX6 yX6_table yX6_table, Cond.code yX6_table cX6_table 8 (some .boolean), Cond.methodLink RX6 124 yX2_tellRow, Cond.instanceMethod yX2_tellRow, Cond.selects RX2 yX2_tellRow yX2_tellRow, Cond.code yX2_tellRow cX2_tellRow 9 (some .boolean), Cond.methodLink RL 110 yX7_table, Cond.instanceMethod yX7_table, Cond.selects RX7 yX7_table yX7_table, Cond.code yX7_table cX7_table 10 (some .boolean), Cond.methodLink RX7 131 yX7_isNumber, Cond.static yX7_isNumber, Cond.code yX7_isNumber cX7_isNumber 2 (some .boolean), Cond.methodLink RL 111 yL_length]
def wsL_law0_r17 : List Cond := [Cond.static yL_length, Cond.codeWith yL_length cL_length 4 (some .int) [(0, 8, 11, 19)], Cond.methodLink RL 36 yX6_length, Cond.instanceMethod yX6_length, Cond.selects RX6 yX6_length yX6_length, Cond.code yX6_length cX6_length 2 (some .long), Cond.methodLink RL 113 yX7_length, Cond.instanceMethod yX7_length, Cond.selects RX7 yX7_length yX7_length, Cond.code yX7_length cX7_length 2 (some .long), Cond.methodLink RL 114 yL_slack, Cond.static yL_slack, Cond.codeWith yL_slack cL_slack 7 (some .int) [(0, 18, 21, 13)], Cond.methodLink RL 40 yX6_slack, Cond.instanceMethod yX6_slack, Cond.selects RX6 yX6_slack yX6_slack, Cond.code yX6_slack cX6_slack 6 (some .boolean), Cond.constantLong RX6 128 (1000), Cond.methodLink RL 117 yX7_slack, Cond.instanceMethod yX7_slack, Cond.selects RX7 yX7_slack yX7_slack, Cond.code yX7_slack cX7_slack 5 (some .boolean), Cond.constantLong RX7 122 (1000), Cond.methodLink RL 118 yL_reel]
def wsL_law0_r18 : List Cond := [Cond.static yL_reel, Cond.codeWith yL_reel cL_reel 5 (some .int) [(0, 9, 12, 13)], Cond.methodLink RL 44 yX6_reel, Cond.instanceMethod yX6_reel, Cond.selects RX6 yX6_reel yX6_reel, Cond.code yX6_reel cX6_reel 6 (some .int), Cond.constantLong RX6 130 (10000000), Cond.methodLink RX6 132 yX0_begin, Cond.instanceMethod yX0_begin, Cond.selects RX0 yX0_begin yX0_begin, Cond.code yX0_begin cX0_begin 1 none, Cond.methodLink RX0 45 yJ7_fill_d0a16, Cond.static yJ7_fill_d0a16, Cond.code yJ7_fill_d0a16 cJ7_fill_d0a16 5 none, Cond.methodLink RX6 135 yX0_addPiece, Cond.instanceMethod yX0_addPiece, Cond.selects RX0 yX0_addPiece yX0_addPiece, Cond.code yX0_addPiece cX0_addPiece 4 none, Cond.methodLink RX6 139 yX0_pack, Cond.instanceMethod yX0_pack, Cond.selects RX0 yX0_pack yX0_pack, Cond.code yX0_pack cX0_pack 4 (some .int), Cond.methodLink RX0 48 yX0_packOnFewest, Cond.instanceMethod yX0_packOnFewest]
def wsL_law0_r19 : List Cond := [Cond.selects RX0 yX0_packOnFewest yX0_packOnFewest, Cond.code yX0_packOnFewest cX0_packOnFewest 1 (some .int), Cond.methodLink RX0 55 yX0_placeFrom, Cond.instanceMethod yX0_placeFrom, Cond.selects RX0 yX0_placeFrom yX0_placeFrom, Cond.code yX0_placeFrom cX0_placeFrom 4 none, Cond.methodLink RX0 59 yX0_keepTrial, Cond.instanceMethod yX0_keepTrial, Cond.selects RX0 yX0_keepTrial yX0_keepTrial, Cond.code yX0_keepTrial cX0_keepTrial 3 none, Cond.methodLink RX0 63 yX0_placeOn, Cond.instanceMethod yX0_placeOn, Cond.selects RX0 yX0_placeOn yX0_placeOn, Cond.code yX0_placeOn cX0_placeOn 4 none, Cond.methodLink RX0 71 Lib.Math.max.name, Cond.static Lib.Math.max.name, Cond.initialized "java/lang/Math", Cond.code Lib.Math.max.name Lib.Math.max.code 2 (some .int), Cond.methodLink RX0 67 yX0_hasRoom, Cond.instanceMethod yX0_hasRoom, Cond.selects RX0 yX0_hasRoom yX0_hasRoom, Cond.code yX0_hasRoom cX0_hasRoom 3 (some .boolean), Cond.methodLink RX0 52 yX0_packLongestFirst, Cond.instanceMethod yX0_packLongestFirst]
def wsL_law0_r20 : List Cond := [Cond.selects RX0 yX0_packLongestFirst yX0_packLongestFirst, Cond.code yX0_packLongestFirst cX0_packLongestFirst 5 (some .int), Cond.methodLink RX0 77 yX0_longestLeft, Cond.instanceMethod yX0_longestLeft, Cond.selects RX0 yX0_longestLeft yX0_longestLeft, Cond.code yX0_longestLeft cX0_longestLeft 4 (some .int), Cond.methodLink RX0 80 yX0_lowestWithRoom, Cond.instanceMethod yX0_lowestWithRoom, Cond.selects RX0 yX0_lowestWithRoom yX0_lowestWithRoom, Cond.code yX0_lowestWithRoom cX0_lowestWithRoom 3 (some .int), Cond.methodLink RL 121 yX7_reel, Cond.instanceMethod yX7_reel, Cond.selects RX7 yX7_reel yX7_reel, Cond.code yX7_reel cX7_reel 4 (some .int), Cond.constantLong RX7 147 (10000000), Cond.fieldLink RX7 137 "HarnessRowsModel" "many" "I", Cond.methodLink RX7 149 yX7_collect, Cond.instanceMethod yX7_collect, Cond.selects RX7 yX7_collect yX7_collect, Cond.code yX7_collect cX7_collect 2 none, Cond.methodLink RX7 152 yX7_packLongest, Cond.instanceMethod yX7_packLongest, Cond.selects RX7 yX7_packLongest yX7_packLongest, Cond.code yX7_packLongest cX7_packLongest 7 (some .int)]
def wsL_law0_r21 : List Cond := [Cond.methodLink RX7 156 yX7_packExactly, Cond.instanceMethod yX7_packExactly, Cond.selects RX7 yX7_packExactly yX7_packExactly, Cond.code yX7_packExactly cX7_packExactly 5 (some .int), Cond.methodLink RX7 143 yX7_fits, Cond.instanceMethod yX7_fits, Cond.selects RX7 yX7_fits yX7_fits, Cond.code yX7_fits cX7_fits 9 (some .boolean), Cond.methodLink RX7 140 yX7_topOf, Cond.instanceMethod yX7_topOf, Cond.selects RX7 yX7_topOf yX7_topOf, Cond.code yX7_topOf cX7_topOf 4 (some .int), Cond.methodLink RL 122 yL_reelOf, Cond.static yL_reelOf, Cond.codeWith yL_reelOf cL_reelOf 4 (some .int) [(0, 9, 12, 19)], Cond.methodLink RL 48 yX6_reelOf, Cond.instanceMethod yX6_reelOf, Cond.selects RX6 yX6_reelOf yX6_reelOf, Cond.code yX6_reelOf cX6_reelOf 2 (some .int), Cond.methodLink RX6 143 yX0_numberOf, Cond.instanceMethod yX0_numberOf, Cond.selects RX0 yX0_numberOf yX0_numberOf, Cond.code yX0_numberOf cX0_numberOf 2 (some .int), Cond.methodLink RL 124 yX7_reelOf]
def wsL_law0_r22 : List Cond := [Cond.instanceMethod yX7_reelOf, Cond.selects RX7 yX7_reelOf yX7_reelOf, Cond.code yX7_reelOf cX7_reelOf 2 (some .int), Cond.methodLink RL 125 yL_splice, Cond.static yL_splice, Cond.codeWith yL_splice cL_splice 5 (some .int) [(0, 10, 13, 19)], Cond.methodLink RL 51 yX6_splice, Cond.instanceMethod yX6_splice, Cond.selects RX6 yX6_splice yX6_splice, Cond.code yX6_splice cX6_splice 3 (some .int), Cond.methodLink RX6 146 yX1_add, Cond.instanceMethod yX1_add, Cond.selects RX1 yX1_add yX1_add, Cond.code yX1_add cX1_add 3 (some .int), Cond.methodLink RX1 26 yX1_mergeGroups, Cond.instanceMethod yX1_mergeGroups, Cond.selects RX1 yX1_mergeGroups yX1_mergeGroups, Cond.code yX1_mergeGroups cX1_mergeGroups 4 none, Cond.methodLink RL 128 yX7_splice, Cond.instanceMethod yX7_splice, Cond.selects RX7 yX7_splice yX7_splice, Cond.code yX7_splice cX7_splice 5 (some .int), Cond.fieldLink RX7 159 "HarnessRowsModel" "splices" "I", Cond.methodLink RL 129 yL_joined]
def wsL_law0_r23 : List Cond := [Cond.static yL_joined, Cond.codeWith yL_joined cL_joined 7 (some .int) [(0, 21, 24, 19)], Cond.methodLink RL 55 yX6_joined, Cond.instanceMethod yX6_joined, Cond.selects RX6 yX6_joined yX6_joined, Cond.code yX6_joined cX6_joined 9 (some .boolean), Cond.methodLink RX6 147 yX5_wireAt, Cond.methodLink RX6 150 yX1_inOneGroup, Cond.instanceMethod yX1_inOneGroup, Cond.selects RX1 yX1_inOneGroup yX1_inOneGroup, Cond.code yX1_inOneGroup cX1_inOneGroup 3 (some .boolean), Cond.methodLink RL 131 yX7_joined, Cond.instanceMethod yX7_joined, Cond.selects RX7 yX7_joined yX7_joined, Cond.code yX7_joined cX7_joined 11 (some .boolean), Cond.methodLink RL 132 yL_colour, Cond.static yL_colour, Cond.codeWith yL_colour cL_colour 4 (some .int) [(0, 9, 12, 19)], Cond.methodLink RL 59 yX6_colour, Cond.instanceMethod yX6_colour, Cond.selects RX6 yX6_colour yX6_colour, Cond.code yX6_colour cX6_colour 2 (some .int), Cond.methodLink RX6 154 yX5_colourOf, Cond.instanceMethod yX5_colourOf]
def wsL_law0_r24 : List Cond := [Cond.selects RX5 yX5_colourOf yX5_colourOf, Cond.code yX5_colourOf cX5_colourOf 2 (some .int), Cond.methodLink RL 134 yX7_colour, Cond.instanceMethod yX7_colour, Cond.selects RX7 yX7_colour yX7_colour, Cond.code yX7_colour cX7_colour 5 (some .int), Cond.methodLink RX7 162 yX7_meet, Cond.instanceMethod yX7_meet, Cond.selects RX7 yX7_meet yX7_meet, Cond.code yX7_meet cX7_meet 7 (some .boolean), Cond.methodLink RL 135 yX6_variant, Cond.instanceMethod yX6_variant, Cond.selects RX6 yX6_variant yX6_variant, Cond.code yX6_variant cX6_variant 1 (some .int), Cond.methodLink RX6 157 yX4_add, Cond.instanceMethod yX4_add, Cond.selects RX4 yX4_add yX4_add, Cond.code yX4_add cX4_add 1 (some .int), Cond.methodLink RL 138 yX7_variant, Cond.instanceMethod yX7_variant, Cond.selects RX7 yX7_variant yX7_variant, Cond.code yX7_variant cX7_variant 1 (some .int), Cond.fieldLink RX7 165 "HarnessRowsModel" "variants" "I", Cond.methodLink RL 139 yL_has]
def wsL_law0_r25 : List Cond := [Cond.static yL_has, Cond.codeWith yL_has cL_has 6 (some .int) [(0, 19, 22, 19)], Cond.methodLink RL 62 yX6_has, Cond.instanceMethod yX6_has, Cond.selects RX6 yX6_has yX6_has, Cond.code yX6_has cX6_has 4 (some .boolean), Cond.methodLink RX6 159 yX4_count, Cond.instanceMethod yX4_count, Cond.selects RX4 yX4_count yX4_count, Cond.code yX4_count cX4_count 1 (some .int), Cond.methodLink RX6 160 yX4_tellWire, Cond.instanceMethod yX4_tellWire, Cond.selects RX4 yX4_tellWire yX4_tellWire, Cond.code yX4_tellWire cX4_tellWire 6 (some .boolean), Cond.methodLink RX4 22 yX4_isOn, Cond.instanceMethod yX4_isOn, Cond.selects RX4 yX4_isOn yX4_isOn, Cond.code yX4_isOn cX4_isOn 4 (some .boolean), Cond.methodLink RL 142 yX7_has, Cond.instanceMethod yX7_has, Cond.selects RX7 yX7_has yX7_has, Cond.code yX7_has cX7_has 5 (some .boolean), Cond.methodLink RX7 168 yX7_isOn, Cond.instanceMethod yX7_isOn]
def wsL_law0_r26 : List Cond := [Cond.selects RX7 yX7_isOn yX7_isOn, Cond.code yX7_isOn cX7_isOn 4 (some .boolean), Cond.methodLink RL 143 yL_told, Cond.static yL_told, Cond.codeWith yL_told cL_told 5 (some .int) [(0, 10, 13, 19)], Cond.methodLink RL 66 yX6_told, Cond.instanceMethod yX6_told, Cond.selects RX6 yX6_told yX6_told, Cond.code yX6_told cX6_told 4 (some .int), Cond.methodLink RX6 164 yX4_wireOff, Cond.instanceMethod yX4_wireOff, Cond.selects RX4 yX4_wireOff yX4_wireOff, Cond.code yX4_wireOff cX4_wireOff 5 (some .int), Cond.methodLink RL 145 yX7_told, Cond.instanceMethod yX7_told, Cond.selects RX7 yX7_told yX7_told, Cond.code yX7_told cX7_told 5 (some .int), Cond.methodLink RL 146 yL_command, Cond.static yL_command, Cond.codeWith yL_command cL_command 5 (some .int) [(0, 10, 13, 19)], Cond.methodLink RL 69 yX6_command, Cond.instanceMethod yX6_command, Cond.selects RX6 yX6_command yX6_command, Cond.code yX6_command cX6_command 3 (some .int)]
def wsL_law0_r27 : List Cond := [Cond.methodLink RX6 173 yX3_bundleCount, Cond.instanceMethod yX3_bundleCount, Cond.selects RX3 yX3_bundleCount yX3_bundleCount, Cond.code yX3_bundleCount cX3_bundleCount 1 (some .int), Cond.methodLink RX6 176 yX6_checkNotBelowZero, Cond.static yX6_checkNotBelowZero, Cond.code yX6_checkNotBelowZero cX6_checkNotBelowZero 1 none, Cond.methodLink RX6 180 yX6_writeBundle, Cond.instanceMethod yX6_writeBundle, Cond.selects RX6 yX6_writeBundle yX6_writeBundle, Cond.code yX6_writeBundle cX6_writeBundle 2 none, Cond.methodLink RX6 214 yJ4_setLength_d00df, Cond.instanceMethod yJ4_setLength_d00df, Cond.selects RJ4 yJ4_setLength_d00df yJ4_setLength_d00df, Cond.code yJ4_setLength_d00df cJ4_setLength_d00df 2 none, Cond.methodLink RJ4 333 yJ5_setLength_d00df, Cond.sameMethod "java/lang/AbstractStringBuilder" "java/lang/AbstractStringBuilder" "setLength" "(I)V", Cond.superclass RJ4 RJ5, Cond.instanceMethod yJ5_setLength_d00df, Cond.code yJ5_setLength_d00df cJ5_setLength_d00df 2 none, Cond.classLink RJ5 129 RJx7c733, Cond.instantiable RJx7c733 6, Cond.initialized RJx7c733, Cond.fieldLink RJ5 79 "java/lang/AbstractStringBuilder" "count" "I"]
def wsL_law0_r28 : List Cond := [Cond.fieldLink RJ5 73 "java/lang/AbstractStringBuilder" "maybeLatin1" "Z", Cond.methodLink RJ5 100 ⟨"java/lang/AbstractStringBuilder", "ensureCapacityInternal", "(I)V"⟩, Cond.sameMethod "java/lang/AbstractStringBuilder" "java/lang/AbstractStringBuilder" "ensureCapacityInternal" "(I)V", Cond.selects RJ4 ⟨"java/lang/AbstractStringBuilder", "ensureCapacityInternal", "(I)V"⟩ yJ5_ensureCapacityInternal_d00df, Cond.instanceMethod yJ5_ensureCapacityInternal_d00df, Cond.code yJ5_ensureCapacityInternal_d00df cJ5_ensureCapacityInternal_d00df 3 none, Cond.methodLink RJ5 104 ⟨"java/lang/AbstractStringBuilder", "newCapacity", "(I)I"⟩, Cond.sameMethod "java/lang/AbstractStringBuilder" "java/lang/AbstractStringBuilder" "newCapacity" "(I)I", Cond.selects RJ4 ⟨"java/lang/AbstractStringBuilder", "newCapacity", "(I)I"⟩ yJ5_newCapacity_0f7a4, Cond.instanceMethod yJ5_newCapacity_0f7a4, Cond.code yJ5_newCapacity_0f7a4 cJ5_newCapacity_0f7a4 6 (some .int), Cond.constant RJ5 39 (2147483647), Cond.methodLink RJ5 114 yJ8_newLength_cabcc, Cond.static yJ8_newLength_cabcc, Cond.initialized RJ8, Cond.code yJ8_newLength_cabcc cJ8_newLength_cabcc 4 (some .int), Cond.methodLink RJ8 194 Lib.Math.max.name, Cond.constant RJ8 200 (2147483639), Cond.methodLink RJ8 201 yJ8_hugeLength_7cf53, Cond.static yJ8_hugeLength_7cf53, Cond.code yJ8_hugeLength_7cf53 cJ8_hugeLength_7cf53 3 (some .int), Cond.methodLink RJ5 108 yJ7_copyOf_9075b, Cond.static yJ7_copyOf_9075b, Cond.code yJ7_copyOf_9075b cJ7_copyOf_9075b 3 (some (.array .byte))]
def wsL_law0_r29 : List Cond := [Cond.methodLink RJ7 310 ⟨"[B", "clone", "()Ljava/lang/Object;"⟩, Cond.sameMethod "[B" "java/lang/Object" "clone" "()Ljava/lang/Object;", Cond.native ⟨"java/lang/Object", "clone", "()Ljava/lang/Object;"⟩, Cond.instanceMethod ⟨"java/lang/Object", "clone", "()Ljava/lang/Object;"⟩, Cond.selects "[B" ⟨"[B", "clone", "()Ljava/lang/Object;"⟩ ⟨"java/lang/Object", "clone", "()Ljava/lang/Object;"⟩, Cond.classLink RJ7 311 "[B", Cond.methodLink RJ7 304 Lib.Math.min.name, Cond.static Lib.Math.min.name, Cond.code Lib.Math.min.name Lib.Math.min.code 2 (some .int), Cond.methodLink RJ7 150 arraycopyName, Cond.native arraycopyName, Cond.static arraycopyName, Cond.initialized "java/lang/System", Cond.methodLink RJ5 83 ⟨"java/lang/AbstractStringBuilder", "isLatin1", "()Z"⟩, Cond.sameMethod "java/lang/AbstractStringBuilder" "java/lang/AbstractStringBuilder" "isLatin1" "()Z", Cond.selects RJ4 ⟨"java/lang/AbstractStringBuilder", "isLatin1", "()Z"⟩ yJ5_isLatin1_aae02, Cond.instanceMethod yJ5_isLatin1_aae02, Cond.code yJ5_isLatin1_aae02 cJ5_isLatin1_aae02 1 (some .boolean), Cond.methodLink RJ5 133 yJ1_fillNull_b72d1, Cond.static yJ1_fillNull_b72d1, Cond.initialized RJ1, Cond.code yJ1_fillNull_b72d1 cJ1_fillNull_b72d1 3 none, Cond.methodLink RJ1 236 yJ7_fill_eb02e, Cond.static yJ7_fill_eb02e]
def wsL_law0_r30 : List Cond := [Cond.code yJ7_fill_eb02e cJ7_fill_eb02e 5 none, Cond.methodLink RJ7 13 yJ7_rangeCheck_23922, Cond.static yJ7_rangeCheck_23922, Cond.code yJ7_rangeCheck_23922 cJ7_rangeCheck_23922 3 none, Cond.classLink RJ7 45 RJ4, Cond.classLink RJ7 68 RJx00060, Cond.instantiable RJx00060 6, Cond.initialized RJx00060, Cond.methodLink RJ5 137 yJ2_fillNull_b72d1, Cond.static yJ2_fillNull_b72d1, Cond.code yJ2_fillNull_b72d1 cJ2_fillNull_b72d1 3 none, Cond.methodLink RJ2 380 yJ7_fill_eb02e, Cond.methodLink RX6 217 yX3_firstNode, Cond.instanceMethod yX3_firstNode, Cond.selects RX3 yX3_firstNode yX3_firstNode, Cond.code yX3_firstNode cX3_firstNode 2 (some .int), Cond.methodLink RX6 220 yX6_writeNode, Cond.instanceMethod yX6_writeNode, Cond.selects RX6 yX6_writeNode yX6_writeNode, Cond.code yX6_writeNode cX6_writeNode 2 none, Cond.methodLink RX6 223 yJ4_append_cf468, Cond.instanceMethod yJ4_append_cf468, Cond.selects RJ4 yJ4_append_cf468 yJ4_append_cf468, Cond.code yJ4_append_cf468 cJ4_append_cf468 2 (some (.object "java/lang/StringBuilder"))]
def wsL_law0_r31 : List Cond := [Cond.methodLink RJ4 50 yJ5_append_3fe6f, Cond.sameMethod "java/lang/AbstractStringBuilder" "java/lang/AbstractStringBuilder" "append" "(C)Ljava/lang/AbstractStringBuilder;", Cond.instanceMethod yJ5_append_3fe6f, Cond.code yJ5_append_3fe6f cJ5_append_3fe6f 2 (some (.object "java/lang/AbstractStringBuilder")), Cond.methodLink RJ5 191 yJ1_canEncode_fc78d, Cond.static yJ1_canEncode_fc78d, Cond.code yJ1_canEncode_fc78d cJ1_canEncode_fc78d 1 (some .boolean), Cond.methodLink RJ5 195 ⟨"java/lang/AbstractStringBuilder", "inflate", "()V"⟩, Cond.sameMethod "java/lang/AbstractStringBuilder" "java/lang/AbstractStringBuilder" "inflate" "()V", Cond.selects RJ4 ⟨"java/lang/AbstractStringBuilder", "inflate", "()V"⟩ yJ5_inflate_da8c8, Cond.instanceMethod yJ5_inflate_da8c8, Cond.code yJ5_inflate_da8c8 cJ5_inflate_da8c8 2 none, Cond.methodLink RJ5 125 yJ1_inflate_0e8fd, Cond.static yJ1_inflate_0e8fd, Cond.code yJ1_inflate_0e8fd cJ1_inflate_0e8fd 5 none, Cond.methodLink RJ1 240 yJ2_inflate_0e8fd, Cond.static yJ2_inflate_0e8fd, Cond.code yJ2_inflate_0e8fd cJ2_inflate_0e8fd 6 none, Cond.methodLink RJ2 173 yJ2_checkBoundsOffCount_d044e, Cond.static yJ2_checkBoundsOffCount_d044e, Cond.code yJ2_checkBoundsOffCount_d044e cJ2_checkBoundsOffCount_d044e 3 none, Cond.methodLink RJ2 48 yJ2_length_9d52b, Cond.static yJ2_length_9d52b, Cond.code yJ2_length_9d52b cJ2_length_9d52b 1 (some .int)]
def wsL_law0_r32 : List Cond := [Cond.methodLink RJ2 419 yJ0_checkBoundsOffCount_cabcc, Cond.static yJ0_checkBoundsOffCount_cabcc, Cond.initialized RJ0, Cond.code yJ0_checkBoundsOffCount_cabcc cJ0_checkBoundsOffCount_cabcc 3 (some .int), Cond.fieldLink RJ0 1053 "jdk/internal/util/Preconditions" "SIOOBE_FORMATTER" "Ljava/util/function/BiFunction;", Cond.methodLink RJ0 1065 yJ3_checkFromIndexSize_8c36e, Cond.static yJ3_checkFromIndexSize_8c36e, Cond.initialized RJ3, Cond.code yJ3_checkFromIndexSize_8c36e cJ3_checkFromIndexSize_8c36e 4 (some .int), Cond.methodLink RJ2 111 yJ2_putChar_b72d1, Cond.static yJ2_putChar_b72d1, Cond.code yJ2_putChar_b72d1 cJ2_putChar_b72d1 3 none, Cond.fieldLink RJ2 44 "java/lang/StringUTF16" "$assertionsDisabled" "Z", Cond.fieldLink RJ2 59 "java/lang/StringUTF16" "HI_BYTE_SHIFT" "I", Cond.fieldLink RJ2 63 "java/lang/StringUTF16" "LO_BYTE_SHIFT" "I", Cond.methodLink RJ5 197 yJ2_putCharSB_b72d1, Cond.static yJ2_putCharSB_b72d1, Cond.code yJ2_putCharSB_b72d1 cJ2_putCharSB_b72d1 3 none, Cond.methodLink RJ2 67 yJ2_checkIndex_2214a, Cond.static yJ2_checkIndex_2214a, Cond.code yJ2_checkIndex_2214a cJ2_checkIndex_2214a 2 none, Cond.methodLink RJ2 414 yJ0_checkIndex_df160, Cond.static yJ0_checkIndex_df160, Cond.code yJ0_checkIndex_df160 cJ0_checkIndex_df160 2 none]
def wsL_law0_r33 : List Cond := [Cond.methodLink RJ0 1059 yJ3_checkIndex_8e157, Cond.static yJ3_checkIndex_8e157, Cond.code yJ3_checkIndex_8e157 cJ3_checkIndex_8e157 3 (some .int), Cond.methodLink RX6 233 yJ4_append_bf812, Cond.instanceMethod yJ4_append_bf812, Cond.selects RJ4 yJ4_append_bf812 yJ4_append_bf812, Cond.code yJ4_append_bf812 cJ4_append_bf812 2 (some (.object "java/lang/StringBuilder")), Cond.methodLink RJ4 53 yJ5_append_c97b9, Cond.sameMethod "java/lang/AbstractStringBuilder" "java/lang/AbstractStringBuilder" "append" "(I)Ljava/lang/AbstractStringBuilder;", Cond.instanceMethod yJ5_append_c97b9, Cond.code yJ5_append_c97b9 cJ5_append_c97b9 4 (some (.object "java/lang/AbstractStringBuilder")), Cond.methodLink RJ5 245 yJ6_stringSize_0f7a4, Cond.static yJ6_stringSize_0f7a4, Cond.initialized RJ6, Cond.code yJ6_stringSize_0f7a4 cJ6_stringSize_0f7a4 4 (some .int), Cond.methodLink RJ5 248 yJ6_getChars_ba4f3, Cond.static yJ6_getChars_ba4f3, Cond.code yJ6_getChars_ba4f3 cJ6_getChars_ba4f3 7 (some .int), Cond.fieldLink RJ6 83 "java/lang/Integer" "DigitOnes" "[B", Cond.fieldLink RJ6 87 "java/lang/Integer" "DigitTens" "[B", Cond.methodLink RJ5 251 yJ2_getChars_46870, Cond.static yJ2_getChars_46870, Cond.code yJ2_getChars_46870 cJ2_getChars_46870 5 (some .int), Cond.methodLink RJ2 96 yJ2_checkBoundsBeginEnd_d044e]
def wsL_law0_r34 : List Cond := [Cond.static yJ2_checkBoundsBeginEnd_d044e, Cond.code yJ2_checkBoundsBeginEnd_d044e cJ2_checkBoundsBeginEnd_d044e 3 none, Cond.methodLink RJ2 241 yJ0_checkBoundsBeginEnd_23922, Cond.static yJ0_checkBoundsBeginEnd_23922, Cond.code yJ0_checkBoundsBeginEnd_23922 cJ0_checkBoundsBeginEnd_23922 3 none, Cond.methodLink RJ0 1062 yJ3_checkFromToIndex_8c36e, Cond.static yJ3_checkFromToIndex_8c36e, Cond.code yJ3_checkFromToIndex_8c36e cJ3_checkFromToIndex_8c36e 4 (some .int), Cond.methodLink RJ2 393 yJ2_getChars_ba4f3, Cond.static yJ2_getChars_ba4f3, Cond.code yJ2_getChars_ba4f3 cJ2_getChars_ba4f3 7 (some .int), Cond.fieldLink RJ2 403 "java/lang/Integer" "DigitOnes" "[B", Cond.fieldLink RJ2 407 "java/lang/Integer" "DigitTens" "[B", Cond.methodLink RX6 227 yX3_otherNode, Cond.instanceMethod yX3_otherNode, Cond.selects RX3 yX3_otherNode yX3_otherNode, Cond.code yX3_otherNode cX3_otherNode 2 (some .int), Cond.methodLink RX6 230 yX3_bundleLength, Cond.instanceMethod yX3_bundleLength, Cond.selects RX3 yX3_bundleLength yX3_bundleLength, Cond.code yX3_bundleLength cX3_bundleLength 2 (some .int), Cond.methodLink RX6 183 yJ4_length_8abf5, Cond.instanceMethod yJ4_length_8abf5, Cond.selects RJ4 yJ4_length_8abf5 yJ4_length_8abf5]
def wsL_law0_r35 : List Cond := [Cond.code yJ4_length_8abf5 cJ4_length_8abf5 1 (some .int), Cond.methodLink RJ4 343 yJ5_length_8abf5, Cond.sameMethod "java/lang/AbstractStringBuilder" "java/lang/AbstractStringBuilder" "length" "()I", Cond.instanceMethod yJ5_length_8abf5, Cond.code yJ5_length_8abf5 cJ5_length_8abf5 1 (some .int), Cond.methodLink RX6 186 yJ4_charAt_5068e, Cond.instanceMethod yJ4_charAt_5068e, Cond.selects RJ4 yJ4_charAt_5068e yJ4_charAt_5068e, Cond.code yJ4_charAt_5068e cJ4_charAt_5068e 2 (some .char), Cond.methodLink RJ4 329 yJ5_charAt_5068e, Cond.sameMethod "java/lang/AbstractStringBuilder" "java/lang/AbstractStringBuilder" "charAt" "(I)C", Cond.instanceMethod yJ5_charAt_5068e, Cond.code yJ5_charAt_5068e cJ5_charAt_5068e 5 (some .char), Cond.methodLink RJ5 138 Lib.Math.min.name, Cond.methodLink RJ5 144 yJ0_checkIndex_df160, Cond.methodLink RJ5 148 yJ2_getChar_3b067, Cond.static yJ2_getChar_3b067, Cond.code yJ2_getChar_3b067 cJ2_getChar_3b067 2 (some .char), Cond.methodLink RL 148 yX7_command, Cond.instanceMethod yX7_command, Cond.selects RX7 yX7_command yX7_command, Cond.code yX7_command cX7_command 3 (some .int), Cond.fieldLink RX7 174 "HarnessRowsModel" "wanted" "I", Cond.fieldLink RX7 171 "HarnessRowsModel" "written" "I"]
def wsL_law0_r36 : List Cond := [Cond.fieldLink RX7 177 "HarnessRowsModel" "found" "I", Cond.methodLink RX7 190 yX7_sayNode, Cond.instanceMethod yX7_sayNode, Cond.selects RX7 yX7_sayNode yX7_sayNode, Cond.code yX7_sayNode cX7_sayNode 2 none, Cond.methodLink RX7 182 yX7_say, Cond.instanceMethod yX7_say, Cond.selects RX7 yX7_say yX7_say, Cond.code yX7_say cX7_say 2 none, Cond.methodLink RX7 186 yX7_sayNumber, Cond.instanceMethod yX7_sayNumber, Cond.selects RX7 yX7_sayNumber yX7_sayNumber, Cond.code yX7_sayNumber cX7_sayNumber 5 none, Cond.constantLong RX7 180 (10)]
def wsL_law0 : List Cond := (wsL_law0_r1 ++ (wsL_law0_r2 ++ (wsL_law0_r3 ++ (wsL_law0_r4 ++ (wsL_law0_r5 ++ (wsL_law0_r6 ++ (wsL_law0_r7 ++ (wsL_law0_r8 ++ (wsL_law0_r9 ++ (wsL_law0_r10 ++ (wsL_law0_r11 ++ (wsL_law0_r12 ++ (wsL_law0_r13 ++ (wsL_law0_r14 ++ (wsL_law0_r15 ++ (wsL_law0_r16 ++ (wsL_law0_r17 ++ (wsL_law0_r18 ++ (wsL_law0_r19 ++ (wsL_law0_r20 ++ (wsL_law0_r21 ++ (wsL_law0_r22 ++ (wsL_law0_r23 ++ (wsL_law0_r24 ++ (wsL_law0_r25 ++ (wsL_law0_r26 ++ (wsL_law0_r27 ++ (wsL_law0_r28 ++ (wsL_law0_r29 ++ (wsL_law0_r30 ++ (wsL_law0_r31 ++ (wsL_law0_r32 ++ (wsL_law0_r33 ++ (wsL_law0_r34 ++ (wsL_law0_r35 ++ wsL_law0_r36))))))))))))))))))))))))))))))))))) ++ wsX60 ++ wsX70 ++ wsX30 ++ wsX50 ++ wsX20 ++ wsX00 ++ wsX10 ++ wsX40 ++ wsJ40 ++ wsJx7c7330 ++ wsJx000600 ++ ([] : List Cond)
def wsL_law : List Cond := wsL_law0 ++ (vx_atM "java/lang/ArrayIndexOutOfBoundsException" ["java/lang/IndexOutOfBoundsException", "java/lang/RuntimeException", "java/lang/Exception"]).filter goodWord ++ (vx_atS RX6 203 "java/lang/IllegalArgumentException" ["java/lang/RuntimeException", "java/lang/Exception"]).filter goodWord ++ (vx_atS RX6 194 "java/lang/IndexOutOfBoundsException" ["java/lang/RuntimeException", "java/lang/Exception"]).filter goodWord
abbrev vwCl : List vw_C := [(RJ0, TJ0, 4), (RJ4, TJ4, 4), (RJx00060, TJx00060, 6), (RJx7c733, TJx7c733, 6), (RX0, TX0, 8), (RX1, TX1, 3), (RX2, TX2, 3), (RX3, TX3, 7), (RX4, TX4, 3), (RX5, TX5, 6), (RX6, TX6, 9), (RX7, TX7, 34)]
end
section
set_option maxRecDepth 20000 in
theorem ggX0_init_J7_fill_53178 : GoodIn wsX0_init wsJ7_fill_53178 := goodIn_r _ [17] (by decide +kernel) (by decide +kernel)
set_option maxRecDepth 20000 in
theorem gX0_init_J7_fill_53178 : GoodIn wsX0_init (va_wsS RX0 39 yJ7_fill_53178 wsJ7_fill_53178) := goodIn_app (goodIn_of _ (by decide +kernel)) ggX0_init_J7_fill_53178
theorem dX0_init_0 : decode cX0_init 0 = .ok (.aload_n 0, 1) := by decide +kernel
theorem dX0_init_1 : decode cX0_init 1 = .ok (.invokespecial 3, 3) := by decide +kernel
theorem dX0_init_4 : decode cX0_init 4 = .ok (.aload_n 0, 1) := by decide +kernel
theorem dX0_init_5 : decode cX0_init 5 = .ok (.bipush 24, 2) := by decide +kernel
theorem dX0_init_7 : decode cX0_init 7 = .ok (.newarray .int, 2) := by decide +kernel
theorem dX0_init_9 : decode cX0_init 9 = .ok (.putfield 9, 3) := by decide +kernel
theorem dX0_init_12 : decode cX0_init 12 = .ok (.aload_n 0, 1) := by decide +kernel
theorem dX0_init_13 : decode cX0_init 13 = .ok (.bipush 24, 2) := by decide +kernel
theorem dX0_init_15 : decode cX0_init 15 = .ok (.newarray .int, 2) := by decide +kernel
theorem dX0_init_17 : decode cX0_init 17 = .ok (.putfield 15, 3) := by decide +kernel
theorem dX0_init_20 : decode cX0_init 20 = .ok (.aload_n 0, 1) := by decide +kernel
theorem dX0_init_21 : decode cX0_init 21 = .ok (.bipush 24, 2) := by decide +kernel
theorem dX0_init_23 : decode cX0_init 23 = .ok (.newarray .long, 2) := by decide +kernel
theorem dX0_init_25 : decode cX0_init 25 = .ok (.putfield 18, 3) := by decide +kernel
theorem dX0_init_28 : decode cX0_init 28 = .ok (.aload_n 0, 1) := by decide +kernel
theorem dX0_init_29 : decode cX0_init 29 = .ok (.bipush 24, 2) := by decide +kernel
theorem dX0_init_31 : decode cX0_init 31 = .ok (.newarray .long, 2) := by decide +kernel
theorem dX0_init_33 : decode cX0_init 33 = .ok (.putfield 22, 3) := by decide +kernel
theorem dX0_init_36 : decode cX0_init 36 = .ok (.aload_n 0, 1) := by decide +kernel
theorem dX0_init_37 : decode cX0_init 37 = .ok (.bipush 24, 2) := by decide +kernel
theorem dX0_init_39 : decode cX0_init 39 = .ok (.newarray .int, 2) := by decide +kernel
theorem dX0_init_41 : decode cX0_init 41 = .ok (.putfield 25, 3) := by decide +kernel
theorem dX0_init_44 : decode cX0_init 44 = .ok (.aload_n 0, 1) := by decide +kernel
theorem dX0_init_45 : decode cX0_init 45 = .ok (.iconst 0, 1) := by decide +kernel
theorem dX0_init_46 : decode cX0_init 46 = .ok (.putfield 28, 3) := by decide +kernel
theorem dX0_init_49 : decode cX0_init 49 = .ok (.aload_n 0, 1) := by decide +kernel
theorem dX0_init_50 : decode cX0_init 50 = .ok (.iconst 0, 1) := by decide +kernel
theorem dX0_init_51 : decode cX0_init 51 = .ok (.putfield 32, 3) := by decide +kernel
theorem dX0_init_54 : decode cX0_init 54 = .ok (.aload_n 0, 1) := by decide +kernel
theorem dX0_init_55 : decode cX0_init 55 = .ok (.lconst 0, 1) := by decide +kernel
theorem dX0_init_56 : decode cX0_init 56 = .ok (.putfield 35, 3) := by decide +kernel
theorem dX0_init_59 : decode cX0_init 59 = .ok (.aload_n 0, 1) := by decide +kernel
theorem dX0_init_60 : decode cX0_init 60 = .ok (.getfield 9, 3) := by decide +kernel
theorem dX0_init_63 : decode cX0_init 63 = .ok (.iconst (-1), 1) := by decide +kernel
theorem dX0_init_64 : decode cX0_init 64 = .ok (.invokestatic 39, 3) := by decide +kernel
theorem dX0_init_67 : decode cX0_init 67 = .ok (.return_, 1) := by decide +kernel
theorem dX0_numberOf_0 : decode cX0_numberOf 0 = .ok (.aload_n 0, 1) := by decide +kernel
theorem dX0_numberOf_1 : decode cX0_numberOf 1 = .ok (.getfield 9, 3) := by decide +kernel
theorem dX0_numberOf_4 : decode cX0_numberOf 4 = .ok (.iload_n 1, 1) := by decide +kernel
theorem dX0_numberOf_5 : decode cX0_numberOf 5 = .ok (.iaload, 1) := by decide +kernel
theorem dX0_numberOf_6 : decode cX0_numberOf 6 = .ok (.ireturn, 1) := by decide +kernel
set_option maxRecDepth 20000 in
theorem ggX0_begin_J7_fill_53178 : GoodIn wsX0_begin wsJ7_fill_53178 := goodIn_r _ [7] (by decide +kernel) (by decide +kernel)
set_option maxRecDepth 20000 in
theorem gX0_begin_J7_fill_53178 : GoodIn wsX0_begin (va_wsS RX0 39 yJ7_fill_53178 wsJ7_fill_53178) := goodIn_app (goodIn_of _ (by decide +kernel)) ggX0_begin_J7_fill_53178
set_option maxRecDepth 20000 in
theorem ggX0_begin_J7_fill_d0a16 : GoodIn wsX0_begin wsJ7_fill_d0a16 := goodIn_r _ [10] (by decide +kernel) (by decide +kernel)
set_option maxRecDepth 20000 in
theorem gX0_begin_J7_fill_d0a16 : GoodIn wsX0_begin (va_wsS RX0 45 yJ7_fill_d0a16 wsJ7_fill_d0a16) := goodIn_app (goodIn_of _ (by decide +kernel)) ggX0_begin_J7_fill_d0a16
theorem dX0_begin_0 : decode cX0_begin 0 = .ok (.aload_n 0, 1) := by decide +kernel
theorem dX0_begin_1 : decode cX0_begin 1 = .ok (.getfield 9, 3) := by decide +kernel
theorem dX0_begin_4 : decode cX0_begin 4 = .ok (.iconst (-1), 1) := by decide +kernel
theorem dX0_begin_5 : decode cX0_begin 5 = .ok (.invokestatic 39, 3) := by decide +kernel
theorem dX0_begin_8 : decode cX0_begin 8 = .ok (.aload_n 0, 1) := by decide +kernel
theorem dX0_begin_9 : decode cX0_begin 9 = .ok (.getfield 22, 3) := by decide +kernel
theorem dX0_begin_12 : decode cX0_begin 12 = .ok (.lconst 0, 1) := by decide +kernel
theorem dX0_begin_13 : decode cX0_begin 13 = .ok (.invokestatic 45, 3) := by decide +kernel
theorem dX0_begin_16 : decode cX0_begin 16 = .ok (.aload_n 0, 1) := by decide +kernel
theorem dX0_begin_17 : decode cX0_begin 17 = .ok (.iconst 0, 1) := by decide +kernel
theorem dX0_begin_18 : decode cX0_begin 18 = .ok (.putfield 28, 3) := by decide +kernel
theorem dX0_begin_21 : decode cX0_begin 21 = .ok (.return_, 1) := by decide +kernel
theorem dX0_addPiece_0 : decode cX0_addPiece 0 = .ok (.aload_n 0, 1) := by decide +kernel
theorem dX0_addPiece_1 : decode cX0_addPiece 1 = .ok (.getfield 28, 3) := by decide +kernel
theorem dX0_addPiece_4 : decode cX0_addPiece 4 = .ok (.bipush 24, 2) := by decide +kernel
theorem dX0_addPiece_6 : decode cX0_addPiece 6 = .ok (.if_icmp .lt 4, 3) := by decide +kernel
theorem dX0_addPiece_9 : decode cX0_addPiece 9 = .ok (.return_, 1) := by decide +kernel
theorem dX0_addPiece_10 : decode cX0_addPiece 10 = .ok (.aload_n 0, 1) := by decide +kernel
theorem dX0_addPiece_11 : decode cX0_addPiece 11 = .ok (.getfield 15, 3) := by decide +kernel
theorem dX0_addPiece_14 : decode cX0_addPiece 14 = .ok (.aload_n 0, 1) := by decide +kernel
theorem dX0_addPiece_15 : decode cX0_addPiece 15 = .ok (.getfield 28, 3) := by decide +kernel
theorem dX0_addPiece_18 : decode cX0_addPiece 18 = .ok (.iload_n 1, 1) := by decide +kernel
theorem dX0_addPiece_19 : decode cX0_addPiece 19 = .ok (.iastore, 1) := by decide +kernel
theorem dX0_addPiece_20 : decode cX0_addPiece 20 = .ok (.aload_n 0, 1) := by decide +kernel
theorem dX0_addPiece_21 : decode cX0_addPiece 21 = .ok (.getfield 18, 3) := by decide +kernel
theorem dX0_addPiece_24 : decode cX0_addPiece 24 = .ok (.aload_n 0, 1) := by decide +kernel
theorem dX0_addPiece_25 : decode cX0_addPiece 25 = .ok (.getfield 28, 3) := by decide +kernel
theorem dX0_addPiece_28 : decode cX0_addPiece 28 = .ok (.lload_n 2, 1) := by decide +kernel
theorem dX0_addPiece_29 : decode cX0_addPiece 29 = .ok (.lastore, 1) := by decide +kernel
theorem dX0_addPiece_30 : decode cX0_addPiece 30 = .ok (.aload_n 0, 1) := by decide +kernel
theorem dX0_addPiece_31 : decode cX0_addPiece 31 = .ok (.dup, 1) := by decide +kernel
theorem dX0_addPiece_32 : decode cX0_addPiece 32 = .ok (.getfield 28, 3) := by decide +kernel
theorem dX0_addPiece_35 : decode cX0_addPiece 35 = .ok (.iconst 1, 1) := by decide +kernel
theorem dX0_addPiece_36 : decode cX0_addPiece 36 = .ok (.iadd, 1) := by decide +kernel
theorem dX0_addPiece_37 : decode cX0_addPiece 37 = .ok (.putfield 28, 3) := by decide +kernel
theorem dX0_addPiece_40 : decode cX0_addPiece 40 = .ok (.return_, 1) := by decide +kernel
set_option maxRecDepth 20000 in
theorem ggX0_pack_X0_packOnFewest : GoodIn wsX0_pack wsX0_packOnFewest := goodIn_ca (goodIn_r _ [8, 2, 9, 10, 11, 12, 7, 13, 14, 15, 16, 17, 18, 19, 20, 21, 22, 23, 24, 25, 3, 26, 27, 28, 29, 30, 31, 32, 33, 1, 46, 47, 48, 49, 50, 51, 52, 53] (by decide +kernel) (by decide +kernel)) (goodIn_sub (fun _ h => List.mem_cons_of_mem _ (List.mem_append_right _ h)) (by decide +kernel))
set_option maxRecDepth 20000 in
theorem gX0_pack_X0_packOnFewest : GoodIn wsX0_pack (wsV RX0 48 RX0 yX0_packOnFewest wsX0_packOnFewest) := goodIn_app (goodIn_of _ (by decide +kernel)) ggX0_pack_X0_packOnFewest
set_option maxRecDepth 20000 in
theorem ggX0_pack_X0_packLongestFirst : GoodIn wsX0_pack wsX0_packLongestFirst := goodIn_ca (goodIn_r _ [37, 2, 25, 3, 18, 19, 26, 27, 28, 29, 38, 39, 40, 7, 41, 42, 43, 44, 45, 30, 31, 32, 33, 1, 46, 47, 48, 49, 50, 51, 52, 53] (by decide +kernel) (by decide +kernel)) (goodIn_sub (fun _ h => List.mem_cons_of_mem _ (List.mem_append_right _ h)) (by decide +kernel))
set_option maxRecDepth 20000 in
theorem gX0_pack_X0_packLongestFirst : GoodIn wsX0_pack (wsV RX0 52 RX0 yX0_packLongestFirst wsX0_packLongestFirst) := goodIn_app (goodIn_of _ (by decide +kernel)) ggX0_pack_X0_packLongestFirst
theorem dX0_pack_0 : decode cX0_pack 0 = .ok (.aload_n 0, 1) := by decide +kernel
theorem dX0_pack_1 : decode cX0_pack 1 = .ok (.lload_n 1, 1) := by decide +kernel
theorem dX0_pack_2 : decode cX0_pack 2 = .ok (.putfield 35, 3) := by decide +kernel
theorem dX0_pack_5 : decode cX0_pack 5 = .ok (.iconst 0, 1) := by decide +kernel
theorem dX0_pack_6 : decode cX0_pack 6 = .ok (.istore_n 3, 1) := by decide +kernel
theorem dX0_pack_7 : decode cX0_pack 7 = .ok (.iload_n 3, 1) := by decide +kernel
theorem dX0_pack_8 : decode cX0_pack 8 = .ok (.aload_n 0, 1) := by decide +kernel
theorem dX0_pack_9 : decode cX0_pack 9 = .ok (.getfield 28, 3) := by decide +kernel
theorem dX0_pack_12 : decode cX0_pack 12 = .ok (.if_icmp .ge 25, 3) := by decide +kernel
theorem dX0_pack_15 : decode cX0_pack 15 = .ok (.aload_n 0, 1) := by decide +kernel
theorem dX0_pack_16 : decode cX0_pack 16 = .ok (.getfield 18, 3) := by decide +kernel
theorem dX0_pack_19 : decode cX0_pack 19 = .ok (.iload_n 3, 1) := by decide +kernel
theorem dX0_pack_20 : decode cX0_pack 20 = .ok (.laload, 1) := by decide +kernel
theorem dX0_pack_21 : decode cX0_pack 21 = .ok (.aload_n 0, 1) := by decide +kernel
theorem dX0_pack_22 : decode cX0_pack 22 = .ok (.getfield 35, 3) := by decide +kernel
theorem dX0_pack_25 : decode cX0_pack 25 = .ok (.lcmp, 1) := by decide +kernel
theorem dX0_pack_26 : decode cX0_pack 26 = .ok (.ifCond .le 5, 3) := by decide +kernel
theorem dX0_pack_29 : decode cX0_pack 29 = .ok (.iconst (-1), 1) := by decide +kernel
theorem dX0_pack_30 : decode cX0_pack 30 = .ok (.ireturn, 1) := by decide +kernel
theorem dX0_pack_31 : decode cX0_pack 31 = .ok (.iinc 3 1, 3) := by decide +kernel
theorem dX0_pack_34 : decode cX0_pack 34 = .ok (.goto (-27), 3) := by decide +kernel
theorem dX0_pack_37 : decode cX0_pack 37 = .ok (.aload_n 0, 1) := by decide +kernel
theorem dX0_pack_38 : decode cX0_pack 38 = .ok (.getfield 28, 3) := by decide +kernel
theorem dX0_pack_41 : decode cX0_pack 41 = .ok (.bipush 8, 2) := by decide +kernel
theorem dX0_pack_43 : decode cX0_pack 43 = .ok (.if_icmp .gt 10, 3) := by decide +kernel
theorem dX0_pack_46 : decode cX0_pack 46 = .ok (.aload_n 0, 1) := by decide +kernel
theorem dX0_pack_47 : decode cX0_pack 47 = .ok (.invokevirtual 48, 3) := by decide +kernel
theorem dX0_pack_50 : decode cX0_pack 50 = .ok (.goto 7, 3) := by decide +kernel
theorem dX0_pack_53 : decode cX0_pack 53 = .ok (.aload_n 0, 1) := by decide +kernel
theorem dX0_pack_54 : decode cX0_pack 54 = .ok (.invokevirtual 52, 3) := by decide +kernel
theorem dX0_pack_57 : decode cX0_pack 57 = .ok (.ireturn, 1) := by decide +kernel
set_option maxRecDepth 20000 in
theorem ggX0_packOnFewest_X0_placeFrom : GoodIn wsX0_packOnFewest wsX0_placeFrom := goodIn_ca (goodIn_r _ [7, 2, 1, 8, 9, 10, 6, 11, 12, 13, 14, 15, 16, 17, 18, 19, 20, 21, 22, 23, 24, 25, 26, 27, 28, 29, 3, 4, 5, 30, 31, 32, 33, 34, 35, 36, 37] (by decide +kernel) (by decide +kernel)) (goodIn_sub (fun _ h => List.mem_cons_of_mem _ (List.mem_append_right _ h)) (by decide +kernel))
set_option maxRecDepth 20000 in
theorem gX0_packOnFewest_X0_placeFrom : GoodIn wsX0_packOnFewest (wsV RX0 55 RX0 yX0_placeFrom wsX0_placeFrom) := goodIn_app (goodIn_of _ (by decide +kernel)) ggX0_packOnFewest_X0_placeFrom
theorem dX0_packOnFewest_0 : decode cX0_packOnFewest 0 = .ok (.aload_n 0, 1) := by decide +kernel
theorem dX0_packOnFewest_1 : decode cX0_packOnFewest 1 = .ok (.aload_n 0, 1) := by decide +kernel
theorem dX0_packOnFewest_2 : decode cX0_packOnFewest 2 = .ok (.getfield 28, 3) := by decide +kernel
theorem dX0_packOnFewest_5 : decode cX0_packOnFewest 5 = .ok (.iconst 1, 1) := by decide +kernel
theorem dX0_packOnFewest_6 : decode cX0_packOnFewest 6 = .ok (.iadd, 1) := by decide +kernel
theorem dX0_packOnFewest_7 : decode cX0_packOnFewest 7 = .ok (.putfield 32, 3) := by decide +kernel
theorem dX0_packOnFewest_10 : decode cX0_packOnFewest 10 = .ok (.aload_n 0, 1) := by decide +kernel
theorem dX0_packOnFewest_11 : decode cX0_packOnFewest 11 = .ok (.iconst 0, 1) := by decide +kernel
theorem dX0_packOnFewest_12 : decode cX0_packOnFewest 12 = .ok (.iconst 0, 1) := by decide +kernel
theorem dX0_packOnFewest_13 : decode cX0_packOnFewest 13 = .ok (.invokevirtual 55, 3) := by decide +kernel
theorem dX0_packOnFewest_16 : decode cX0_packOnFewest 16 = .ok (.aload_n 0, 1) := by decide +kernel
theorem dX0_packOnFewest_17 : decode cX0_packOnFewest 17 = .ok (.getfield 32, 3) := by decide +kernel
theorem dX0_packOnFewest_20 : decode cX0_packOnFewest 20 = .ok (.ireturn, 1) := by decide +kernel
set_option maxRecDepth 20000 in
theorem ggX0_placeFrom_X0_keepTrial : GoodIn wsX0_placeFrom wsX0_keepTrial := goodIn_ca (goodIn_r _ [7, 1, 2, 8, 9, 10, 29, 30, 31, 32, 33, 34, 35, 36] (by decide +kernel) (by decide +kernel)) (goodIn_sub (fun _ h => List.mem_cons_of_mem _ (List.mem_append_right _ h)) (by decide +kernel))
set_option maxRecDepth 20000 in
theorem gX0_placeFrom_X0_keepTrial : GoodIn wsX0_placeFrom (wsV RX0 59 RX0 yX0_keepTrial wsX0_keepTrial) := goodIn_app (goodIn_of _ (by decide +kernel)) ggX0_placeFrom_X0_keepTrial
set_option maxRecDepth 20000 in
theorem ggX0_placeFrom_X0_placeOn : GoodIn wsX0_placeFrom wsX0_placeOn := goodIn_ca (goodIn_r _ [14, 15, 16, 10, 17, 18, 19, 20, 21, 22, 23, 6, 24, 25, 26, 27, 28, 0, 1, 2, 3, 4, 5, 7, 8, 9, 11, 12, 13, 29, 30, 31, 32, 33, 34, 35, 36] (by decide +kernel) (by decide +kernel)) (goodIn_sub (fun _ h => List.mem_cons_of_mem _ (List.mem_append_right _ h)) (by decide +kernel))
set_option maxRecDepth 20000 in
theorem gX0_placeFrom_X0_placeOn : GoodIn wsX0_placeFrom (wsV RX0 63 RX0 yX0_placeOn wsX0_placeOn) := goodIn_app (goodIn_of _ (by decide +kernel)) ggX0_placeFrom_X0_placeOn
theorem dX0_placeFrom_0 : decode cX0_placeFrom 0 = .ok (.iload_n 2, 1) := by decide +kernel
theorem dX0_placeFrom_1 : decode cX0_placeFrom 1 = .ok (.aload_n 0, 1) := by decide +kernel
theorem dX0_placeFrom_2 : decode cX0_placeFrom 2 = .ok (.getfield 32, 3) := by decide +kernel
theorem dX0_placeFrom_5 : decode cX0_placeFrom 5 = .ok (.if_icmp .lt 4, 3) := by decide +kernel
theorem dX0_placeFrom_8 : decode cX0_placeFrom 8 = .ok (.return_, 1) := by decide +kernel
theorem dX0_placeFrom_9 : decode cX0_placeFrom 9 = .ok (.iload_n 1, 1) := by decide +kernel
theorem dX0_placeFrom_10 : decode cX0_placeFrom 10 = .ok (.aload_n 0, 1) := by decide +kernel
theorem dX0_placeFrom_11 : decode cX0_placeFrom 11 = .ok (.getfield 28, 3) := by decide +kernel
theorem dX0_placeFrom_14 : decode cX0_placeFrom 14 = .ok (.if_icmp .lt 9, 3) := by decide +kernel
theorem dX0_placeFrom_17 : decode cX0_placeFrom 17 = .ok (.aload_n 0, 1) := by decide +kernel
theorem dX0_placeFrom_18 : decode cX0_placeFrom 18 = .ok (.iload_n 2, 1) := by decide +kernel
theorem dX0_placeFrom_19 : decode cX0_placeFrom 19 = .ok (.invokevirtual 59, 3) := by decide +kernel
theorem dX0_placeFrom_22 : decode cX0_placeFrom 22 = .ok (.return_, 1) := by decide +kernel
theorem dX0_placeFrom_23 : decode cX0_placeFrom 23 = .ok (.iconst 0, 1) := by decide +kernel
theorem dX0_placeFrom_24 : decode cX0_placeFrom 24 = .ok (.istore_n 3, 1) := by decide +kernel
theorem dX0_placeFrom_25 : decode cX0_placeFrom 25 = .ok (.iload_n 3, 1) := by decide +kernel
theorem dX0_placeFrom_26 : decode cX0_placeFrom 26 = .ok (.iload_n 2, 1) := by decide +kernel
theorem dX0_placeFrom_27 : decode cX0_placeFrom 27 = .ok (.if_icmp .gt 16, 3) := by decide +kernel
theorem dX0_placeFrom_30 : decode cX0_placeFrom 30 = .ok (.aload_n 0, 1) := by decide +kernel
theorem dX0_placeFrom_31 : decode cX0_placeFrom 31 = .ok (.iload_n 1, 1) := by decide +kernel
theorem dX0_placeFrom_32 : decode cX0_placeFrom 32 = .ok (.iload_n 3, 1) := by decide +kernel
theorem dX0_placeFrom_33 : decode cX0_placeFrom 33 = .ok (.iload_n 2, 1) := by decide +kernel
theorem dX0_placeFrom_34 : decode cX0_placeFrom 34 = .ok (.invokevirtual 63, 3) := by decide +kernel
theorem dX0_placeFrom_37 : decode cX0_placeFrom 37 = .ok (.iinc 3 1, 3) := by decide +kernel
theorem dX0_placeFrom_40 : decode cX0_placeFrom 40 = .ok (.goto (-15), 3) := by decide +kernel
theorem dX0_placeFrom_43 : decode cX0_placeFrom 43 = .ok (.return_, 1) := by decide +kernel
set_option maxRecDepth 20000 in
theorem ggX0_placeOn_X0_hasRoom : GoodIn wsX0_placeOn wsX0_hasRoom := goodIn_ca (goodIn_r _ [12, 1, 2, 13, 29, 30, 31, 32, 33, 34, 35, 36] (by decide +kernel) (by decide +kernel)) (goodIn_sub (fun _ h => List.mem_cons_of_mem _ (List.mem_append_right _ h)) (by decide +kernel))
set_option maxRecDepth 20000 in
theorem gX0_placeOn_X0_hasRoom : GoodIn wsX0_placeOn (wsV RX0 67 RX0 yX0_hasRoom wsX0_hasRoom) := goodIn_app (goodIn_of _ (by decide +kernel)) ggX0_placeOn_X0_hasRoom
set_option maxRecDepth 20000 in
theorem ggX0_placeOn_X0_placeFrom : GoodIn wsX0_placeOn wsX0_placeFrom := goodIn_ca (goodIn_r _ [17, 18, 19, 20, 21, 22, 11, 23, 24, 25, 3, 26, 27, 28, 0, 1, 2, 4, 5, 6, 7, 8, 9, 10, 12, 13, 14, 15, 16, 29, 30, 31, 32, 33, 34, 35, 36] (by decide +kernel) (by decide +kernel)) (goodIn_sub (fun _ h => List.mem_cons_of_mem _ (List.mem_append_right _ h)) (by decide +kernel))
set_option maxRecDepth 20000 in
theorem gX0_placeOn_X0_placeFrom : GoodIn wsX0_placeOn (wsV RX0 55 RX0 yX0_placeFrom wsX0_placeFrom) := goodIn_app (goodIn_of _ (by decide +kernel)) ggX0_placeOn_X0_placeFrom
theorem dX0_placeOn_0 : decode cX0_placeOn 0 = .ok (.aload_n 0, 1) := by decide +kernel
theorem dX0_placeOn_1 : decode cX0_placeOn 1 = .ok (.iload_n 2, 1) := by decide +kernel
theorem dX0_placeOn_2 : decode cX0_placeOn 2 = .ok (.iload_n 1, 1) := by decide +kernel
theorem dX0_placeOn_3 : decode cX0_placeOn 3 = .ok (.invokevirtual 67, 3) := by decide +kernel
theorem dX0_placeOn_6 : decode cX0_placeOn 6 = .ok (.ifCond .ne 4, 3) := by decide +kernel
theorem dX0_placeOn_9 : decode cX0_placeOn 9 = .ok (.return_, 1) := by decide +kernel
theorem dX0_placeOn_10 : decode cX0_placeOn 10 = .ok (.aload_n 0, 1) := by decide +kernel
theorem dX0_placeOn_11 : decode cX0_placeOn 11 = .ok (.getfield 22, 3) := by decide +kernel
theorem dX0_placeOn_14 : decode cX0_placeOn 14 = .ok (.iload_n 2, 1) := by decide +kernel
theorem dX0_placeOn_15 : decode cX0_placeOn 15 = .ok (.dup2, 1) := by decide +kernel
theorem dX0_placeOn_16 : decode cX0_placeOn 16 = .ok (.laload, 1) := by decide +kernel
theorem dX0_placeOn_17 : decode cX0_placeOn 17 = .ok (.aload_n 0, 1) := by decide +kernel
theorem dX0_placeOn_18 : decode cX0_placeOn 18 = .ok (.getfield 18, 3) := by decide +kernel
theorem dX0_placeOn_21 : decode cX0_placeOn 21 = .ok (.iload_n 1, 1) := by decide +kernel
theorem dX0_placeOn_22 : decode cX0_placeOn 22 = .ok (.laload, 1) := by decide +kernel
theorem dX0_placeOn_23 : decode cX0_placeOn 23 = .ok (.ladd, 1) := by decide +kernel
theorem dX0_placeOn_24 : decode cX0_placeOn 24 = .ok (.lastore, 1) := by decide +kernel
theorem dX0_placeOn_25 : decode cX0_placeOn 25 = .ok (.aload_n 0, 1) := by decide +kernel
theorem dX0_placeOn_26 : decode cX0_placeOn 26 = .ok (.getfield 25, 3) := by decide +kernel
theorem dX0_placeOn_29 : decode cX0_placeOn 29 = .ok (.iload_n 1, 1) := by decide +kernel
theorem dX0_placeOn_30 : decode cX0_placeOn 30 = .ok (.iload_n 2, 1) := by decide +kernel
theorem dX0_placeOn_31 : decode cX0_placeOn 31 = .ok (.iastore, 1) := by decide +kernel
theorem dX0_placeOn_32 : decode cX0_placeOn 32 = .ok (.aload_n 0, 1) := by decide +kernel
theorem dX0_placeOn_33 : decode cX0_placeOn 33 = .ok (.iload_n 1, 1) := by decide +kernel
theorem dX0_placeOn_34 : decode cX0_placeOn 34 = .ok (.iconst 1, 1) := by decide +kernel
theorem dX0_placeOn_35 : decode cX0_placeOn 35 = .ok (.iadd, 1) := by decide +kernel
theorem dX0_placeOn_36 : decode cX0_placeOn 36 = .ok (.iload_n 3, 1) := by decide +kernel
theorem dX0_placeOn_37 : decode cX0_placeOn 37 = .ok (.iload_n 2, 1) := by decide +kernel
theorem dX0_placeOn_38 : decode cX0_placeOn 38 = .ok (.iconst 1, 1) := by decide +kernel
theorem dX0_placeOn_39 : decode cX0_placeOn 39 = .ok (.iadd, 1) := by decide +kernel
theorem dX0_placeOn_40 : decode cX0_placeOn 40 = .ok (.invokestatic 71, 3) := by decide +kernel
theorem dX0_placeOn_43 : decode cX0_placeOn 43 = .ok (.invokevirtual 55, 3) := by decide +kernel
theorem dX0_placeOn_46 : decode cX0_placeOn 46 = .ok (.aload_n 0, 1) := by decide +kernel
theorem dX0_placeOn_47 : decode cX0_placeOn 47 = .ok (.getfield 22, 3) := by decide +kernel
theorem dX0_placeOn_50 : decode cX0_placeOn 50 = .ok (.iload_n 2, 1) := by decide +kernel
theorem dX0_placeOn_51 : decode cX0_placeOn 51 = .ok (.dup2, 1) := by decide +kernel
theorem dX0_placeOn_52 : decode cX0_placeOn 52 = .ok (.laload, 1) := by decide +kernel
theorem dX0_placeOn_53 : decode cX0_placeOn 53 = .ok (.aload_n 0, 1) := by decide +kernel
theorem dX0_placeOn_54 : decode cX0_placeOn 54 = .ok (.getfield 18, 3) := by decide +kernel
theorem dX0_placeOn_57 : decode cX0_placeOn 57 = .ok (.iload_n 1, 1) := by decide +kernel
theorem dX0_placeOn_58 : decode cX0_placeOn 58 = .ok (.laload, 1) := by decide +kernel
theorem dX0_placeOn_59 : decode cX0_placeOn 59 = .ok (.lsub, 1) := by decide +kernel
theorem dX0_placeOn_60 : decode cX0_placeOn 60 = .ok (.lastore, 1) := by decide +kernel
theorem dX0_placeOn_61 : decode cX0_placeOn 61 = .ok (.return_, 1) := by decide +kernel
theorem dX0_keepTrial_0 : decode cX0_keepTrial 0 = .ok (.aload_n 0, 1) := by decide +kernel
theorem dX0_keepTrial_1 : decode cX0_keepTrial 1 = .ok (.iload_n 1, 1) := by decide +kernel
theorem dX0_keepTrial_2 : decode cX0_keepTrial 2 = .ok (.putfield 32, 3) := by decide +kernel
theorem dX0_keepTrial_5 : decode cX0_keepTrial 5 = .ok (.iconst 0, 1) := by decide +kernel
theorem dX0_keepTrial_6 : decode cX0_keepTrial 6 = .ok (.istore_n 2, 1) := by decide +kernel
theorem dX0_keepTrial_7 : decode cX0_keepTrial 7 = .ok (.iload_n 2, 1) := by decide +kernel
theorem dX0_keepTrial_8 : decode cX0_keepTrial 8 = .ok (.aload_n 0, 1) := by decide +kernel
theorem dX0_keepTrial_9 : decode cX0_keepTrial 9 = .ok (.getfield 28, 3) := by decide +kernel
theorem dX0_keepTrial_12 : decode cX0_keepTrial 12 = .ok (.if_icmp .ge 26, 3) := by decide +kernel
theorem dX0_keepTrial_15 : decode cX0_keepTrial 15 = .ok (.aload_n 0, 1) := by decide +kernel
theorem dX0_keepTrial_16 : decode cX0_keepTrial 16 = .ok (.getfield 9, 3) := by decide +kernel
theorem dX0_keepTrial_19 : decode cX0_keepTrial 19 = .ok (.aload_n 0, 1) := by decide +kernel
theorem dX0_keepTrial_20 : decode cX0_keepTrial 20 = .ok (.getfield 15, 3) := by decide +kernel
theorem dX0_keepTrial_23 : decode cX0_keepTrial 23 = .ok (.iload_n 2, 1) := by decide +kernel
theorem dX0_keepTrial_24 : decode cX0_keepTrial 24 = .ok (.iaload, 1) := by decide +kernel
theorem dX0_keepTrial_25 : decode cX0_keepTrial 25 = .ok (.aload_n 0, 1) := by decide +kernel
theorem dX0_keepTrial_26 : decode cX0_keepTrial 26 = .ok (.getfield 25, 3) := by decide +kernel
theorem dX0_keepTrial_29 : decode cX0_keepTrial 29 = .ok (.iload_n 2, 1) := by decide +kernel
theorem dX0_keepTrial_30 : decode cX0_keepTrial 30 = .ok (.iaload, 1) := by decide +kernel
theorem dX0_keepTrial_31 : decode cX0_keepTrial 31 = .ok (.iastore, 1) := by decide +kernel
theorem dX0_keepTrial_32 : decode cX0_keepTrial 32 = .ok (.iinc 2 1, 3) := by decide +kernel
theorem dX0_keepTrial_35 : decode cX0_keepTrial 35 = .ok (.goto (-28), 3) := by decide +kernel
theorem dX0_keepTrial_38 : decode cX0_keepTrial 38 = .ok (.return_, 1) := by decide +kernel
set_option maxRecDepth 20000 in
theorem ggX0_packLongestFirst_X0_longestLeft : GoodIn wsX0_packLongestFirst wsX0_longestLeft := goodIn_ca (goodIn_r _ [14, 1, 4, 5, 3, 24, 25, 26, 27, 28, 29, 30, 31] (by decide +kernel) (by decide +kernel)) (goodIn_sub (fun _ h => List.mem_cons_of_mem _ (List.mem_append_right _ h)) (by decide +kernel))
set_option maxRecDepth 20000 in
theorem gX0_packLongestFirst_X0_longestLeft : GoodIn wsX0_packLongestFirst (wsV RX0 77 RX0 yX0_longestLeft wsX0_longestLeft) := goodIn_app (goodIn_of _ (by decide +kernel)) ggX0_packLongestFirst_X0_longestLeft
set_option maxRecDepth 20000 in
theorem ggX0_packLongestFirst_X0_lowestWithRoom : GoodIn wsX0_packLongestFirst wsX0_lowestWithRoom := goodIn_ca (goodIn_r _ [18, 19, 20, 21, 13, 22, 2, 3, 23, 24, 25, 26, 27, 28, 29, 30, 31] (by decide +kernel) (by decide +kernel)) (goodIn_sub (fun _ h => List.mem_cons_of_mem _ (List.mem_append_right _ h)) (by decide +kernel))
set_option maxRecDepth 20000 in
theorem gX0_packLongestFirst_X0_lowestWithRoom : GoodIn wsX0_packLongestFirst (wsV RX0 80 RX0 yX0_lowestWithRoom wsX0_lowestWithRoom) := goodIn_app (goodIn_of _ (by decide +kernel)) ggX0_packLongestFirst_X0_lowestWithRoom
theorem dX0_packLongestFirst_0 : decode cX0_packLongestFirst 0 = .ok (.iconst 0, 1) := by decide +kernel
theorem dX0_packLongestFirst_1 : decode cX0_packLongestFirst 1 = .ok (.istore_n 1, 1) := by decide +kernel
theorem dX0_packLongestFirst_2 : decode cX0_packLongestFirst 2 = .ok (.iconst 0, 1) := by decide +kernel
theorem dX0_packLongestFirst_3 : decode cX0_packLongestFirst 3 = .ok (.istore_n 2, 1) := by decide +kernel
theorem dX0_packLongestFirst_4 : decode cX0_packLongestFirst 4 = .ok (.iload_n 2, 1) := by decide +kernel
theorem dX0_packLongestFirst_5 : decode cX0_packLongestFirst 5 = .ok (.aload_n 0, 1) := by decide +kernel
theorem dX0_packLongestFirst_6 : decode cX0_packLongestFirst 6 = .ok (.getfield 28, 3) := by decide +kernel
theorem dX0_packLongestFirst_9 : decode cX0_packLongestFirst 9 = .ok (.if_icmp .ge 76, 3) := by decide +kernel
theorem dX0_packLongestFirst_12 : decode cX0_packLongestFirst 12 = .ok (.aload_n 0, 1) := by decide +kernel
theorem dX0_packLongestFirst_13 : decode cX0_packLongestFirst 13 = .ok (.invokevirtual 77, 3) := by decide +kernel
theorem dX0_packLongestFirst_16 : decode cX0_packLongestFirst 16 = .ok (.istore_n 3, 1) := by decide +kernel
theorem dX0_packLongestFirst_17 : decode cX0_packLongestFirst 17 = .ok (.iload_n 3, 1) := by decide +kernel
theorem dX0_packLongestFirst_18 : decode cX0_packLongestFirst 18 = .ok (.iconst (-1), 1) := by decide +kernel
theorem dX0_packLongestFirst_19 : decode cX0_packLongestFirst 19 = .ok (.if_icmp .ne 7, 3) := by decide +kernel
theorem dX0_packLongestFirst_22 : decode cX0_packLongestFirst 22 = .ok (.iconst (-1), 1) := by decide +kernel
theorem dX0_packLongestFirst_23 : decode cX0_packLongestFirst 23 = .ok (.goto 8, 3) := by decide +kernel
theorem dX0_packLongestFirst_26 : decode cX0_packLongestFirst 26 = .ok (.aload_n 0, 1) := by decide +kernel
theorem dX0_packLongestFirst_27 : decode cX0_packLongestFirst 27 = .ok (.iload_n 3, 1) := by decide +kernel
theorem dX0_packLongestFirst_28 : decode cX0_packLongestFirst 28 = .ok (.invokevirtual 80, 3) := by decide +kernel
theorem dX0_packLongestFirst_31 : decode cX0_packLongestFirst 31 = .ok (.istore 4, 2) := by decide +kernel
theorem dX0_packLongestFirst_33 : decode cX0_packLongestFirst 33 = .ok (.iload 4, 2) := by decide +kernel
theorem dX0_packLongestFirst_35 : decode cX0_packLongestFirst 35 = .ok (.iconst (-1), 1) := by decide +kernel
theorem dX0_packLongestFirst_36 : decode cX0_packLongestFirst 36 = .ok (.if_icmp .ne 5, 3) := by decide +kernel
theorem dX0_packLongestFirst_39 : decode cX0_packLongestFirst 39 = .ok (.iload_n 1, 1) := by decide +kernel
theorem dX0_packLongestFirst_40 : decode cX0_packLongestFirst 40 = .ok (.ireturn, 1) := by decide +kernel
theorem dX0_packLongestFirst_41 : decode cX0_packLongestFirst 41 = .ok (.aload_n 0, 1) := by decide +kernel
theorem dX0_packLongestFirst_42 : decode cX0_packLongestFirst 42 = .ok (.getfield 22, 3) := by decide +kernel
theorem dX0_packLongestFirst_45 : decode cX0_packLongestFirst 45 = .ok (.iload 4, 2) := by decide +kernel
theorem dX0_packLongestFirst_47 : decode cX0_packLongestFirst 47 = .ok (.dup2, 1) := by decide +kernel
theorem dX0_packLongestFirst_48 : decode cX0_packLongestFirst 48 = .ok (.laload, 1) := by decide +kernel
theorem dX0_packLongestFirst_49 : decode cX0_packLongestFirst 49 = .ok (.aload_n 0, 1) := by decide +kernel
theorem dX0_packLongestFirst_50 : decode cX0_packLongestFirst 50 = .ok (.getfield 18, 3) := by decide +kernel
theorem dX0_packLongestFirst_53 : decode cX0_packLongestFirst 53 = .ok (.iload_n 3, 1) := by decide +kernel
theorem dX0_packLongestFirst_54 : decode cX0_packLongestFirst 54 = .ok (.laload, 1) := by decide +kernel
theorem dX0_packLongestFirst_55 : decode cX0_packLongestFirst 55 = .ok (.ladd, 1) := by decide +kernel
theorem dX0_packLongestFirst_56 : decode cX0_packLongestFirst 56 = .ok (.lastore, 1) := by decide +kernel
theorem dX0_packLongestFirst_57 : decode cX0_packLongestFirst 57 = .ok (.aload_n 0, 1) := by decide +kernel
theorem dX0_packLongestFirst_58 : decode cX0_packLongestFirst 58 = .ok (.getfield 9, 3) := by decide +kernel
theorem dX0_packLongestFirst_61 : decode cX0_packLongestFirst 61 = .ok (.aload_n 0, 1) := by decide +kernel
theorem dX0_packLongestFirst_62 : decode cX0_packLongestFirst 62 = .ok (.getfield 15, 3) := by decide +kernel
theorem dX0_packLongestFirst_65 : decode cX0_packLongestFirst 65 = .ok (.iload_n 3, 1) := by decide +kernel
theorem dX0_packLongestFirst_66 : decode cX0_packLongestFirst 66 = .ok (.iaload, 1) := by decide +kernel
theorem dX0_packLongestFirst_67 : decode cX0_packLongestFirst 67 = .ok (.iload 4, 2) := by decide +kernel
theorem dX0_packLongestFirst_69 : decode cX0_packLongestFirst 69 = .ok (.iastore, 1) := by decide +kernel
theorem dX0_packLongestFirst_70 : decode cX0_packLongestFirst 70 = .ok (.iload_n 1, 1) := by decide +kernel
theorem dX0_packLongestFirst_71 : decode cX0_packLongestFirst 71 = .ok (.iload 4, 2) := by decide +kernel
theorem dX0_packLongestFirst_73 : decode cX0_packLongestFirst 73 = .ok (.iconst 1, 1) := by decide +kernel
theorem dX0_packLongestFirst_74 : decode cX0_packLongestFirst 74 = .ok (.iadd, 1) := by decide +kernel
theorem dX0_packLongestFirst_75 : decode cX0_packLongestFirst 75 = .ok (.invokestatic 71, 3) := by decide +kernel
theorem dX0_packLongestFirst_78 : decode cX0_packLongestFirst 78 = .ok (.istore_n 1, 1) := by decide +kernel
theorem dX0_packLongestFirst_79 : decode cX0_packLongestFirst 79 = .ok (.iinc 2 1, 3) := by decide +kernel
theorem dX0_packLongestFirst_82 : decode cX0_packLongestFirst 82 = .ok (.goto (-78), 3) := by decide +kernel
theorem dX0_packLongestFirst_85 : decode cX0_packLongestFirst 85 = .ok (.iload_n 1, 1) := by decide +kernel
theorem dX0_packLongestFirst_86 : decode cX0_packLongestFirst 86 = .ok (.ireturn, 1) := by decide +kernel
theorem dX0_longestLeft_0 : decode cX0_longestLeft 0 = .ok (.iconst (-1), 1) := by decide +kernel
theorem dX0_longestLeft_1 : decode cX0_longestLeft 1 = .ok (.istore_n 1, 1) := by decide +kernel
theorem dX0_longestLeft_2 : decode cX0_longestLeft 2 = .ok (.iconst 0, 1) := by decide +kernel
theorem dX0_longestLeft_3 : decode cX0_longestLeft 3 = .ok (.istore_n 2, 1) := by decide +kernel
theorem dX0_longestLeft_4 : decode cX0_longestLeft 4 = .ok (.iload_n 2, 1) := by decide +kernel
theorem dX0_longestLeft_5 : decode cX0_longestLeft 5 = .ok (.aload_n 0, 1) := by decide +kernel
theorem dX0_longestLeft_6 : decode cX0_longestLeft 6 = .ok (.getfield 28, 3) := by decide +kernel
theorem dX0_longestLeft_9 : decode cX0_longestLeft 9 = .ok (.if_icmp .ge 57, 3) := by decide +kernel
theorem dX0_longestLeft_12 : decode cX0_longestLeft 12 = .ok (.aload_n 0, 1) := by decide +kernel
theorem dX0_longestLeft_13 : decode cX0_longestLeft 13 = .ok (.getfield 9, 3) := by decide +kernel
theorem dX0_longestLeft_16 : decode cX0_longestLeft 16 = .ok (.aload_n 0, 1) := by decide +kernel
theorem dX0_longestLeft_17 : decode cX0_longestLeft 17 = .ok (.getfield 15, 3) := by decide +kernel
theorem dX0_longestLeft_20 : decode cX0_longestLeft 20 = .ok (.iload_n 2, 1) := by decide +kernel
theorem dX0_longestLeft_21 : decode cX0_longestLeft 21 = .ok (.iaload, 1) := by decide +kernel
theorem dX0_longestLeft_22 : decode cX0_longestLeft 22 = .ok (.iaload, 1) := by decide +kernel
theorem dX0_longestLeft_23 : decode cX0_longestLeft 23 = .ok (.iconst (-1), 1) := by decide +kernel
theorem dX0_longestLeft_24 : decode cX0_longestLeft 24 = .ok (.if_icmp .ne 7, 3) := by decide +kernel
theorem dX0_longestLeft_27 : decode cX0_longestLeft 27 = .ok (.iconst 1, 1) := by decide +kernel
theorem dX0_longestLeft_28 : decode cX0_longestLeft 28 = .ok (.goto 4, 3) := by decide +kernel
theorem dX0_longestLeft_31 : decode cX0_longestLeft 31 = .ok (.iconst 0, 1) := by decide +kernel
theorem dX0_longestLeft_32 : decode cX0_longestLeft 32 = .ok (.istore_n 3, 1) := by decide +kernel
theorem dX0_longestLeft_33 : decode cX0_longestLeft 33 = .ok (.iload_n 3, 1) := by decide +kernel
theorem dX0_longestLeft_34 : decode cX0_longestLeft 34 = .ok (.ifCond .eq 26, 3) := by decide +kernel
theorem dX0_longestLeft_37 : decode cX0_longestLeft 37 = .ok (.iload_n 1, 1) := by decide +kernel
theorem dX0_longestLeft_38 : decode cX0_longestLeft 38 = .ok (.iconst (-1), 1) := by decide +kernel
theorem dX0_longestLeft_39 : decode cX0_longestLeft 39 = .ok (.if_icmp .eq 19, 3) := by decide +kernel
theorem dX0_longestLeft_42 : decode cX0_longestLeft 42 = .ok (.aload_n 0, 1) := by decide +kernel
theorem dX0_longestLeft_43 : decode cX0_longestLeft 43 = .ok (.getfield 18, 3) := by decide +kernel
theorem dX0_longestLeft_46 : decode cX0_longestLeft 46 = .ok (.iload_n 2, 1) := by decide +kernel
theorem dX0_longestLeft_47 : decode cX0_longestLeft 47 = .ok (.laload, 1) := by decide +kernel
theorem dX0_longestLeft_48 : decode cX0_longestLeft 48 = .ok (.aload_n 0, 1) := by decide +kernel
theorem dX0_longestLeft_49 : decode cX0_longestLeft 49 = .ok (.getfield 18, 3) := by decide +kernel
theorem dX0_longestLeft_52 : decode cX0_longestLeft 52 = .ok (.iload_n 1, 1) := by decide +kernel
theorem dX0_longestLeft_53 : decode cX0_longestLeft 53 = .ok (.laload, 1) := by decide +kernel
theorem dX0_longestLeft_54 : decode cX0_longestLeft 54 = .ok (.lcmp, 1) := by decide +kernel
theorem dX0_longestLeft_55 : decode cX0_longestLeft 55 = .ok (.ifCond .le 5, 3) := by decide +kernel
theorem dX0_longestLeft_58 : decode cX0_longestLeft 58 = .ok (.iload_n 2, 1) := by decide +kernel
theorem dX0_longestLeft_59 : decode cX0_longestLeft 59 = .ok (.istore_n 1, 1) := by decide +kernel
theorem dX0_longestLeft_60 : decode cX0_longestLeft 60 = .ok (.iinc 2 1, 3) := by decide +kernel
theorem dX0_longestLeft_63 : decode cX0_longestLeft 63 = .ok (.goto (-59), 3) := by decide +kernel
theorem dX0_longestLeft_66 : decode cX0_longestLeft 66 = .ok (.iload_n 1, 1) := by decide +kernel
theorem dX0_longestLeft_67 : decode cX0_longestLeft 67 = .ok (.ireturn, 1) := by decide +kernel
set_option maxRecDepth 20000 in
theorem ggX0_lowestWithRoom_X0_hasRoom : GoodIn wsX0_lowestWithRoom wsX0_hasRoom := goodIn_ca (goodIn_r _ [5, 6, 7, 8, 9, 10, 11, 12, 13, 14, 15, 16] (by decide +kernel) (by decide +kernel)) (goodIn_sub (fun _ h => List.mem_cons_of_mem _ (List.mem_append_right _ h)) (by decide +kernel))
set_option maxRecDepth 20000 in
theorem gX0_lowestWithRoom_X0_hasRoom : GoodIn wsX0_lowestWithRoom (wsV RX0 67 RX0 yX0_hasRoom wsX0_hasRoom) := goodIn_app (goodIn_of _ (by decide +kernel)) ggX0_lowestWithRoom_X0_hasRoom
theorem dX0_lowestWithRoom_0 : decode cX0_lowestWithRoom 0 = .ok (.iconst 0, 1) := by decide +kernel
theorem dX0_lowestWithRoom_1 : decode cX0_lowestWithRoom 1 = .ok (.istore_n 2, 1) := by decide +kernel
theorem dX0_lowestWithRoom_2 : decode cX0_lowestWithRoom 2 = .ok (.iload_n 2, 1) := by decide +kernel
theorem dX0_lowestWithRoom_3 : decode cX0_lowestWithRoom 3 = .ok (.bipush 24, 2) := by decide +kernel
theorem dX0_lowestWithRoom_5 : decode cX0_lowestWithRoom 5 = .ok (.if_icmp .ge 20, 3) := by decide +kernel
theorem dX0_lowestWithRoom_8 : decode cX0_lowestWithRoom 8 = .ok (.aload_n 0, 1) := by decide +kernel
theorem dX0_lowestWithRoom_9 : decode cX0_lowestWithRoom 9 = .ok (.iload_n 2, 1) := by decide +kernel
theorem dX0_lowestWithRoom_10 : decode cX0_lowestWithRoom 10 = .ok (.iload_n 1, 1) := by decide +kernel
theorem dX0_lowestWithRoom_11 : decode cX0_lowestWithRoom 11 = .ok (.invokevirtual 67, 3) := by decide +kernel
theorem dX0_lowestWithRoom_14 : decode cX0_lowestWithRoom 14 = .ok (.ifCond .eq 5, 3) := by decide +kernel
theorem dX0_lowestWithRoom_17 : decode cX0_lowestWithRoom 17 = .ok (.iload_n 2, 1) := by decide +kernel
theorem dX0_lowestWithRoom_18 : decode cX0_lowestWithRoom 18 = .ok (.ireturn, 1) := by decide +kernel
theorem dX0_lowestWithRoom_19 : decode cX0_lowestWithRoom 19 = .ok (.iinc 2 1, 3) := by decide +kernel
theorem dX0_lowestWithRoom_22 : decode cX0_lowestWithRoom 22 = .ok (.goto (-20), 3) := by decide +kernel
theorem dX0_lowestWithRoom_25 : decode cX0_lowestWithRoom 25 = .ok (.iconst (-1), 1) := by decide +kernel
theorem dX0_lowestWithRoom_26 : decode cX0_lowestWithRoom 26 = .ok (.ireturn, 1) := by decide +kernel
theorem dX0_hasRoom_0 : decode cX0_hasRoom 0 = .ok (.aload_n 0, 1) := by decide +kernel
theorem dX0_hasRoom_1 : decode cX0_hasRoom 1 = .ok (.getfield 22, 3) := by decide +kernel
theorem dX0_hasRoom_4 : decode cX0_hasRoom 4 = .ok (.iload_n 1, 1) := by decide +kernel
theorem dX0_hasRoom_5 : decode cX0_hasRoom 5 = .ok (.laload, 1) := by decide +kernel
theorem dX0_hasRoom_6 : decode cX0_hasRoom 6 = .ok (.aload_n 0, 1) := by decide +kernel
theorem dX0_hasRoom_7 : decode cX0_hasRoom 7 = .ok (.getfield 18, 3) := by decide +kernel
theorem dX0_hasRoom_10 : decode cX0_hasRoom 10 = .ok (.iload_n 2, 1) := by decide +kernel
theorem dX0_hasRoom_11 : decode cX0_hasRoom 11 = .ok (.laload, 1) := by decide +kernel
theorem dX0_hasRoom_12 : decode cX0_hasRoom 12 = .ok (.ladd, 1) := by decide +kernel
theorem dX0_hasRoom_13 : decode cX0_hasRoom 13 = .ok (.aload_n 0, 1) := by decide +kernel
theorem dX0_hasRoom_14 : decode cX0_hasRoom 14 = .ok (.getfield 35, 3) := by decide +kernel
theorem dX0_hasRoom_17 : decode cX0_hasRoom 17 = .ok (.lcmp, 1) := by decide +kernel
theorem dX0_hasRoom_18 : decode cX0_hasRoom 18 = .ok (.ifCond .gt 7, 3) := by decide +kernel
theorem dX0_hasRoom_21 : decode cX0_hasRoom 21 = .ok (.iconst 1, 1) := by decide +kernel
theorem dX0_hasRoom_22 : decode cX0_hasRoom 22 = .ok (.goto 4, 3) := by decide +kernel
theorem dX0_hasRoom_25 : decode cX0_hasRoom 25 = .ok (.iconst 0, 1) := by decide +kernel
theorem dX0_hasRoom_26 : decode cX0_hasRoom 26 = .ok (.ireturn, 1) := by decide +kernel
theorem dX1_init_0 : decode cX1_init 0 = .ok (.aload_n 0, 1) := by decide +kernel
theorem dX1_init_1 : decode cX1_init 1 = .ok (.invokespecial 3, 3) := by decide +kernel
theorem dX1_init_4 : decode cX1_init 4 = .ok (.aload_n 0, 1) := by decide +kernel
theorem dX1_init_5 : decode cX1_init 5 = .ok (.bipush 24, 2) := by decide +kernel
theorem dX1_init_7 : decode cX1_init 7 = .ok (.newarray .int, 2) := by decide +kernel
theorem dX1_init_9 : decode cX1_init 9 = .ok (.putfield 9, 3) := by decide +kernel
theorem dX1_init_12 : decode cX1_init 12 = .ok (.aload_n 0, 1) := by decide +kernel
theorem dX1_init_13 : decode cX1_init 13 = .ok (.bipush 24, 2) := by decide +kernel
theorem dX1_init_15 : decode cX1_init 15 = .ok (.newarray .int, 2) := by decide +kernel
theorem dX1_init_17 : decode cX1_init 17 = .ok (.putfield 15, 3) := by decide +kernel
theorem dX1_init_20 : decode cX1_init 20 = .ok (.aload_n 0, 1) := by decide +kernel
theorem dX1_init_21 : decode cX1_init 21 = .ok (.iconst 0, 1) := by decide +kernel
theorem dX1_init_22 : decode cX1_init 22 = .ok (.putfield 18, 3) := by decide +kernel
theorem dX1_init_25 : decode cX1_init 25 = .ok (.iconst 0, 1) := by decide +kernel
theorem dX1_init_26 : decode cX1_init 26 = .ok (.istore_n 1, 1) := by decide +kernel
theorem dX1_init_27 : decode cX1_init 27 = .ok (.iload_n 1, 1) := by decide +kernel
theorem dX1_init_28 : decode cX1_init 28 = .ok (.bipush 24, 2) := by decide +kernel
theorem dX1_init_30 : decode cX1_init 30 = .ok (.if_icmp .ge 16, 3) := by decide +kernel
theorem dX1_init_33 : decode cX1_init 33 = .ok (.aload_n 0, 1) := by decide +kernel
theorem dX1_init_34 : decode cX1_init 34 = .ok (.getfield 15, 3) := by decide +kernel
theorem dX1_init_37 : decode cX1_init 37 = .ok (.iload_n 1, 1) := by decide +kernel
theorem dX1_init_38 : decode cX1_init 38 = .ok (.iload_n 1, 1) := by decide +kernel
theorem dX1_init_39 : decode cX1_init 39 = .ok (.iastore, 1) := by decide +kernel
theorem dX1_init_40 : decode cX1_init 40 = .ok (.iinc 1 1, 3) := by decide +kernel
theorem dX1_init_43 : decode cX1_init 43 = .ok (.goto (-16), 3) := by decide +kernel
theorem dX1_init_46 : decode cX1_init 46 = .ok (.return_, 1) := by decide +kernel
theorem dX1_inOneGroup_0 : decode cX1_inOneGroup 0 = .ok (.aload_n 0, 1) := by decide +kernel
theorem dX1_inOneGroup_1 : decode cX1_inOneGroup 1 = .ok (.getfield 15, 3) := by decide +kernel
theorem dX1_inOneGroup_4 : decode cX1_inOneGroup 4 = .ok (.iload_n 1, 1) := by decide +kernel
theorem dX1_inOneGroup_5 : decode cX1_inOneGroup 5 = .ok (.iaload, 1) := by decide +kernel
theorem dX1_inOneGroup_6 : decode cX1_inOneGroup 6 = .ok (.aload_n 0, 1) := by decide +kernel
theorem dX1_inOneGroup_7 : decode cX1_inOneGroup 7 = .ok (.getfield 15, 3) := by decide +kernel
theorem dX1_inOneGroup_10 : decode cX1_inOneGroup 10 = .ok (.iload_n 2, 1) := by decide +kernel
theorem dX1_inOneGroup_11 : decode cX1_inOneGroup 11 = .ok (.iaload, 1) := by decide +kernel
theorem dX1_inOneGroup_12 : decode cX1_inOneGroup 12 = .ok (.if_icmp .ne 7, 3) := by decide +kernel
theorem dX1_inOneGroup_15 : decode cX1_inOneGroup 15 = .ok (.iconst 1, 1) := by decide +kernel
theorem dX1_inOneGroup_16 : decode cX1_inOneGroup 16 = .ok (.goto 4, 3) := by decide +kernel
theorem dX1_inOneGroup_19 : decode cX1_inOneGroup 19 = .ok (.iconst 0, 1) := by decide +kernel
theorem dX1_inOneGroup_20 : decode cX1_inOneGroup 20 = .ok (.ireturn, 1) := by decide +kernel
set_option maxRecDepth 20000 in
theorem ggX1_add_X6_hasBit : GoodIn wsX1_add wsX6_hasBit := goodIn_r _ [6] (by decide +kernel) (by decide +kernel)
set_option maxRecDepth 20000 in
theorem gX1_add_X6_hasBit_n22 : GoodIn wsX1_add (wsX6_hasBit) := ggX1_add_X6_hasBit
set_option maxRecDepth 20000 in
theorem ggX1_add_X1_mergeGroups : GoodIn wsX1_add wsX1_mergeGroups := goodIn_ca (goodIn_r _ [11, 3, 12, 13, 14] (by decide +kernel) (by decide +kernel)) (goodIn_sub (fun _ h => List.mem_cons_of_mem _ (List.mem_append_right _ h)) (by decide +kernel))
set_option maxRecDepth 20000 in
theorem gX1_add_X1_mergeGroups : GoodIn wsX1_add (wsV RX1 26 RX1 yX1_mergeGroups wsX1_mergeGroups) := goodIn_app (goodIn_of _ (by decide +kernel)) ggX1_add_X1_mergeGroups
theorem dX1_add_0 : decode cX1_add 0 = .ok (.iload_n 1, 1) := by decide +kernel
theorem dX1_add_1 : decode cX1_add 1 = .ok (.iload_n 2, 1) := by decide +kernel
theorem dX1_add_2 : decode cX1_add 2 = .ok (.if_icmp .eq 25, 3) := by decide +kernel
theorem dX1_add_5 : decode cX1_add 5 = .ok (.aload_n 0, 1) := by decide +kernel
theorem dX1_add_6 : decode cX1_add 6 = .ok (.getfield 18, 3) := by decide +kernel
theorem dX1_add_9 : decode cX1_add 9 = .ok (.bipush 20, 2) := by decide +kernel
theorem dX1_add_11 : decode cX1_add 11 = .ok (.if_icmp .ge 16, 3) := by decide +kernel
theorem dX1_add_14 : decode cX1_add 14 = .ok (.aload_n 0, 1) := by decide +kernel
theorem dX1_add_15 : decode cX1_add 15 = .ok (.getfield 9, 3) := by decide +kernel
theorem dX1_add_18 : decode cX1_add 18 = .ok (.iload_n 1, 1) := by decide +kernel
theorem dX1_add_19 : decode cX1_add 19 = .ok (.iaload, 1) := by decide +kernel
theorem dX1_add_20 : decode cX1_add 20 = .ok (.iload_n 2, 1) := by decide +kernel
theorem dX1_add_21 : decode cX1_add 21 = .ok (.invokestatic 22, 3) := by decide +kernel
theorem dX1_add_24 : decode cX1_add 24 = .ok (.ifCond .eq 5, 3) := by decide +kernel
theorem dX1_add_27 : decode cX1_add 27 = .ok (.iconst (-1), 1) := by decide +kernel
theorem dX1_add_28 : decode cX1_add 28 = .ok (.ireturn, 1) := by decide +kernel
theorem dX1_add_29 : decode cX1_add 29 = .ok (.aload_n 0, 1) := by decide +kernel
theorem dX1_add_30 : decode cX1_add 30 = .ok (.getfield 9, 3) := by decide +kernel
theorem dX1_add_33 : decode cX1_add 33 = .ok (.iload_n 1, 1) := by decide +kernel
theorem dX1_add_34 : decode cX1_add 34 = .ok (.dup2, 1) := by decide +kernel
theorem dX1_add_35 : decode cX1_add 35 = .ok (.iaload, 1) := by decide +kernel
theorem dX1_add_36 : decode cX1_add 36 = .ok (.iconst 1, 1) := by decide +kernel
theorem dX1_add_37 : decode cX1_add 37 = .ok (.iload_n 2, 1) := by decide +kernel
theorem dX1_add_38 : decode cX1_add 38 = .ok (.ishl, 1) := by decide +kernel
theorem dX1_add_39 : decode cX1_add 39 = .ok (.ior, 1) := by decide +kernel
theorem dX1_add_40 : decode cX1_add 40 = .ok (.iastore, 1) := by decide +kernel
theorem dX1_add_41 : decode cX1_add 41 = .ok (.aload_n 0, 1) := by decide +kernel
theorem dX1_add_42 : decode cX1_add 42 = .ok (.getfield 9, 3) := by decide +kernel
theorem dX1_add_45 : decode cX1_add 45 = .ok (.iload_n 2, 1) := by decide +kernel
theorem dX1_add_46 : decode cX1_add 46 = .ok (.dup2, 1) := by decide +kernel
theorem dX1_add_47 : decode cX1_add 47 = .ok (.iaload, 1) := by decide +kernel
theorem dX1_add_48 : decode cX1_add 48 = .ok (.iconst 1, 1) := by decide +kernel
theorem dX1_add_49 : decode cX1_add 49 = .ok (.iload_n 1, 1) := by decide +kernel
theorem dX1_add_50 : decode cX1_add 50 = .ok (.ishl, 1) := by decide +kernel
theorem dX1_add_51 : decode cX1_add 51 = .ok (.ior, 1) := by decide +kernel
theorem dX1_add_52 : decode cX1_add 52 = .ok (.iastore, 1) := by decide +kernel
theorem dX1_add_53 : decode cX1_add 53 = .ok (.aload_n 0, 1) := by decide +kernel
theorem dX1_add_54 : decode cX1_add 54 = .ok (.aload_n 0, 1) := by decide +kernel
theorem dX1_add_55 : decode cX1_add 55 = .ok (.getfield 15, 3) := by decide +kernel
theorem dX1_add_58 : decode cX1_add 58 = .ok (.iload_n 1, 1) := by decide +kernel
theorem dX1_add_59 : decode cX1_add 59 = .ok (.iaload, 1) := by decide +kernel
theorem dX1_add_60 : decode cX1_add 60 = .ok (.aload_n 0, 1) := by decide +kernel
theorem dX1_add_61 : decode cX1_add 61 = .ok (.getfield 15, 3) := by decide +kernel
theorem dX1_add_64 : decode cX1_add 64 = .ok (.iload_n 2, 1) := by decide +kernel
theorem dX1_add_65 : decode cX1_add 65 = .ok (.iaload, 1) := by decide +kernel
theorem dX1_add_66 : decode cX1_add 66 = .ok (.invokevirtual 26, 3) := by decide +kernel
theorem dX1_add_69 : decode cX1_add 69 = .ok (.aload_n 0, 1) := by decide +kernel
theorem dX1_add_70 : decode cX1_add 70 = .ok (.dup, 1) := by decide +kernel
theorem dX1_add_71 : decode cX1_add 71 = .ok (.getfield 18, 3) := by decide +kernel
theorem dX1_add_74 : decode cX1_add 74 = .ok (.iconst 1, 1) := by decide +kernel
theorem dX1_add_75 : decode cX1_add 75 = .ok (.iadd, 1) := by decide +kernel
theorem dX1_add_76 : decode cX1_add 76 = .ok (.putfield 18, 3) := by decide +kernel
theorem dX1_add_79 : decode cX1_add 79 = .ok (.aload_n 0, 1) := by decide +kernel
theorem dX1_add_80 : decode cX1_add 80 = .ok (.getfield 18, 3) := by decide +kernel
theorem dX1_add_83 : decode cX1_add 83 = .ok (.ireturn, 1) := by decide +kernel
theorem dX1_mergeGroups_0 : decode cX1_mergeGroups 0 = .ok (.iconst 0, 1) := by decide +kernel
theorem dX1_mergeGroups_1 : decode cX1_mergeGroups 1 = .ok (.istore_n 3, 1) := by decide +kernel
theorem dX1_mergeGroups_2 : decode cX1_mergeGroups 2 = .ok (.iload_n 3, 1) := by decide +kernel
theorem dX1_mergeGroups_3 : decode cX1_mergeGroups 3 = .ok (.bipush 24, 2) := by decide +kernel
theorem dX1_mergeGroups_5 : decode cX1_mergeGroups 5 = .ok (.if_icmp .ge 26, 3) := by decide +kernel
theorem dX1_mergeGroups_8 : decode cX1_mergeGroups 8 = .ok (.aload_n 0, 1) := by decide +kernel
theorem dX1_mergeGroups_9 : decode cX1_mergeGroups 9 = .ok (.getfield 15, 3) := by decide +kernel
theorem dX1_mergeGroups_12 : decode cX1_mergeGroups 12 = .ok (.iload_n 3, 1) := by decide +kernel
theorem dX1_mergeGroups_13 : decode cX1_mergeGroups 13 = .ok (.iaload, 1) := by decide +kernel
theorem dX1_mergeGroups_14 : decode cX1_mergeGroups 14 = .ok (.iload_n 2, 1) := by decide +kernel
theorem dX1_mergeGroups_15 : decode cX1_mergeGroups 15 = .ok (.if_icmp .ne 10, 3) := by decide +kernel
theorem dX1_mergeGroups_18 : decode cX1_mergeGroups 18 = .ok (.aload_n 0, 1) := by decide +kernel
theorem dX1_mergeGroups_19 : decode cX1_mergeGroups 19 = .ok (.getfield 15, 3) := by decide +kernel
theorem dX1_mergeGroups_22 : decode cX1_mergeGroups 22 = .ok (.iload_n 3, 1) := by decide +kernel
theorem dX1_mergeGroups_23 : decode cX1_mergeGroups 23 = .ok (.iload_n 1, 1) := by decide +kernel
theorem dX1_mergeGroups_24 : decode cX1_mergeGroups 24 = .ok (.iastore, 1) := by decide +kernel
theorem dX1_mergeGroups_25 : decode cX1_mergeGroups 25 = .ok (.iinc 3 1, 3) := by decide +kernel
theorem dX1_mergeGroups_28 : decode cX1_mergeGroups 28 = .ok (.goto (-26), 3) := by decide +kernel
theorem dX1_mergeGroups_31 : decode cX1_mergeGroups 31 = .ok (.return_, 1) := by decide +kernel
theorem dX2_init_0 : decode cX2_init 0 = .ok (.aload_n 0, 1) := by decide +kernel
theorem dX2_init_1 : decode cX2_init 1 = .ok (.invokespecial 3, 3) := by decide +kernel
theorem dX2_init_4 : decode cX2_init 4 = .ok (.aload_n 0, 1) := by decide +kernel
theorem dX2_init_5 : decode cX2_init 5 = .ok (.bipush 10, 2) := by decide +kernel
theorem dX2_init_7 : decode cX2_init 7 = .ok (.newarray .long, 2) := by decide +kernel
theorem dX2_init_9 : decode cX2_init 9 = .ok (.putfield 9, 3) := by decide +kernel
theorem dX2_init_12 : decode cX2_init 12 = .ok (.aload_n 0, 1) := by decide +kernel
theorem dX2_init_13 : decode cX2_init 13 = .ok (.bipush 10, 2) := by decide +kernel
theorem dX2_init_15 : decode cX2_init 15 = .ok (.newarray .long, 2) := by decide +kernel
theorem dX2_init_17 : decode cX2_init 17 = .ok (.putfield 15, 3) := by decide +kernel
theorem dX2_init_20 : decode cX2_init 20 = .ok (.aload_n 0, 1) := by decide +kernel
theorem dX2_init_21 : decode cX2_init 21 = .ok (.bipush 10, 2) := by decide +kernel
theorem dX2_init_23 : decode cX2_init 23 = .ok (.newarray .long, 2) := by decide +kernel
theorem dX2_init_25 : decode cX2_init 25 = .ok (.putfield 18, 3) := by decide +kernel
theorem dX2_init_28 : decode cX2_init 28 = .ok (.return_, 1) := by decide +kernel
theorem dX2_tellRow_0 : decode cX2_tellRow 0 = .ok (.aload_n 0, 1) := by decide +kernel
theorem dX2_tellRow_1 : decode cX2_tellRow 1 = .ok (.getfield 9, 3) := by decide +kernel
theorem dX2_tellRow_4 : decode cX2_tellRow 4 = .ok (.iload_n 1, 1) := by decide +kernel
theorem dX2_tellRow_5 : decode cX2_tellRow 5 = .ok (.laload, 1) := by decide +kernel
theorem dX2_tellRow_6 : decode cX2_tellRow 6 = .ok (.lload_n 2, 1) := by decide +kernel
theorem dX2_tellRow_7 : decode cX2_tellRow 7 = .ok (.lcmp, 1) := by decide +kernel
theorem dX2_tellRow_8 : decode cX2_tellRow 8 = .ok (.ifCond .ne 27, 3) := by decide +kernel
theorem dX2_tellRow_11 : decode cX2_tellRow 11 = .ok (.aload_n 0, 1) := by decide +kernel
theorem dX2_tellRow_12 : decode cX2_tellRow 12 = .ok (.getfield 15, 3) := by decide +kernel
theorem dX2_tellRow_15 : decode cX2_tellRow 15 = .ok (.iload_n 1, 1) := by decide +kernel
theorem dX2_tellRow_16 : decode cX2_tellRow 16 = .ok (.laload, 1) := by decide +kernel
theorem dX2_tellRow_17 : decode cX2_tellRow 17 = .ok (.lload 4, 2) := by decide +kernel
theorem dX2_tellRow_19 : decode cX2_tellRow 19 = .ok (.lcmp, 1) := by decide +kernel
theorem dX2_tellRow_20 : decode cX2_tellRow 20 = .ok (.ifCond .ne 15, 3) := by decide +kernel
theorem dX2_tellRow_23 : decode cX2_tellRow 23 = .ok (.aload_n 0, 1) := by decide +kernel
theorem dX2_tellRow_24 : decode cX2_tellRow 24 = .ok (.getfield 18, 3) := by decide +kernel
theorem dX2_tellRow_27 : decode cX2_tellRow 27 = .ok (.iload_n 1, 1) := by decide +kernel
theorem dX2_tellRow_28 : decode cX2_tellRow 28 = .ok (.laload, 1) := by decide +kernel
theorem dX2_tellRow_29 : decode cX2_tellRow 29 = .ok (.lload 6, 2) := by decide +kernel
theorem dX2_tellRow_31 : decode cX2_tellRow 31 = .ok (.lcmp, 1) := by decide +kernel
theorem dX2_tellRow_32 : decode cX2_tellRow 32 = .ok (.ifCond .eq 7, 3) := by decide +kernel
theorem dX2_tellRow_35 : decode cX2_tellRow 35 = .ok (.iconst 1, 1) := by decide +kernel
theorem dX2_tellRow_36 : decode cX2_tellRow 36 = .ok (.goto 4, 3) := by decide +kernel
theorem dX2_tellRow_39 : decode cX2_tellRow 39 = .ok (.iconst 0, 1) := by decide +kernel
theorem dX2_tellRow_40 : decode cX2_tellRow 40 = .ok (.istore 8, 2) := by decide +kernel
theorem dX2_tellRow_42 : decode cX2_tellRow 42 = .ok (.aload_n 0, 1) := by decide +kernel
theorem dX2_tellRow_43 : decode cX2_tellRow 43 = .ok (.getfield 9, 3) := by decide +kernel
theorem dX2_tellRow_46 : decode cX2_tellRow 46 = .ok (.iload_n 1, 1) := by decide +kernel
theorem dX2_tellRow_47 : decode cX2_tellRow 47 = .ok (.lload_n 2, 1) := by decide +kernel
theorem dX2_tellRow_48 : decode cX2_tellRow 48 = .ok (.lastore, 1) := by decide +kernel
theorem dX2_tellRow_49 : decode cX2_tellRow 49 = .ok (.aload_n 0, 1) := by decide +kernel
theorem dX2_tellRow_50 : decode cX2_tellRow 50 = .ok (.getfield 15, 3) := by decide +kernel
theorem dX2_tellRow_53 : decode cX2_tellRow 53 = .ok (.iload_n 1, 1) := by decide +kernel
theorem dX2_tellRow_54 : decode cX2_tellRow 54 = .ok (.lload 4, 2) := by decide +kernel
theorem dX2_tellRow_56 : decode cX2_tellRow 56 = .ok (.lastore, 1) := by decide +kernel
theorem dX2_tellRow_57 : decode cX2_tellRow 57 = .ok (.aload_n 0, 1) := by decide +kernel
theorem dX2_tellRow_58 : decode cX2_tellRow 58 = .ok (.getfield 18, 3) := by decide +kernel
theorem dX2_tellRow_61 : decode cX2_tellRow 61 = .ok (.iload_n 1, 1) := by decide +kernel
theorem dX2_tellRow_62 : decode cX2_tellRow 62 = .ok (.lload 6, 2) := by decide +kernel
theorem dX2_tellRow_64 : decode cX2_tellRow 64 = .ok (.lastore, 1) := by decide +kernel
theorem dX2_tellRow_65 : decode cX2_tellRow 65 = .ok (.iload 8, 2) := by decide +kernel
theorem dX2_tellRow_67 : decode cX2_tellRow 67 = .ok (.ireturn, 1) := by decide +kernel
set_option maxRecDepth 20000 in
theorem ggX2_leastThatWillDo_X2_willDo : GoodIn wsX2_leastThatWillDo wsX2_willDo := goodIn_ca (goodIn_r _ [7, 2, 8, 9, 10, 11, 12, 13] (by decide +kernel) (by decide +kernel)) (goodIn_sub (fun _ h => List.mem_cons_of_mem _ (List.mem_append_right _ h)) (by decide +kernel))
set_option maxRecDepth 20000 in
theorem gX2_leastThatWillDo_X2_willDo : GoodIn wsX2_leastThatWillDo (wsV RX2 23 RX2 yX2_willDo wsX2_willDo) := goodIn_app (goodIn_of _ (by decide +kernel)) ggX2_leastThatWillDo_X2_willDo
theorem dX2_leastThatWillDo_0 : decode cX2_leastThatWillDo 0 = .ok (.iconst (-1), 1) := by decide +kernel
theorem dX2_leastThatWillDo_1 : decode cX2_leastThatWillDo 1 = .ok (.istore 7, 2) := by decide +kernel
theorem dX2_leastThatWillDo_3 : decode cX2_leastThatWillDo 3 = .ok (.ldc2_w 21, 3) := by decide +kernel
theorem dX2_leastThatWillDo_6 : decode cX2_leastThatWillDo 6 = .ok (.lstore 8, 2) := by decide +kernel
theorem dX2_leastThatWillDo_8 : decode cX2_leastThatWillDo 8 = .ok (.iconst 0, 1) := by decide +kernel
theorem dX2_leastThatWillDo_9 : decode cX2_leastThatWillDo 9 = .ok (.istore 10, 2) := by decide +kernel
theorem dX2_leastThatWillDo_11 : decode cX2_leastThatWillDo 11 = .ok (.iload 10, 2) := by decide +kernel
theorem dX2_leastThatWillDo_13 : decode cX2_leastThatWillDo 13 = .ok (.bipush 10, 2) := by decide +kernel
theorem dX2_leastThatWillDo_15 : decode cX2_leastThatWillDo 15 = .ok (.if_icmp .ge 48, 3) := by decide +kernel
theorem dX2_leastThatWillDo_18 : decode cX2_leastThatWillDo 18 = .ok (.aload_n 0, 1) := by decide +kernel
theorem dX2_leastThatWillDo_19 : decode cX2_leastThatWillDo 19 = .ok (.getfield 9, 3) := by decide +kernel
theorem dX2_leastThatWillDo_22 : decode cX2_leastThatWillDo 22 = .ok (.iload 10, 2) := by decide +kernel
theorem dX2_leastThatWillDo_24 : decode cX2_leastThatWillDo 24 = .ok (.laload, 1) := by decide +kernel
theorem dX2_leastThatWillDo_25 : decode cX2_leastThatWillDo 25 = .ok (.lload 8, 2) := by decide +kernel
theorem dX2_leastThatWillDo_27 : decode cX2_leastThatWillDo 27 = .ok (.lcmp, 1) := by decide +kernel
theorem dX2_leastThatWillDo_28 : decode cX2_leastThatWillDo 28 = .ok (.ifCond .ge 29, 3) := by decide +kernel
theorem dX2_leastThatWillDo_31 : decode cX2_leastThatWillDo 31 = .ok (.aload_n 0, 1) := by decide +kernel
theorem dX2_leastThatWillDo_32 : decode cX2_leastThatWillDo 32 = .ok (.iload 10, 2) := by decide +kernel
theorem dX2_leastThatWillDo_34 : decode cX2_leastThatWillDo 34 = .ok (.lload_n 1, 1) := by decide +kernel
theorem dX2_leastThatWillDo_35 : decode cX2_leastThatWillDo 35 = .ok (.lload_n 3, 1) := by decide +kernel
theorem dX2_leastThatWillDo_36 : decode cX2_leastThatWillDo 36 = .ok (.lload 5, 2) := by decide +kernel
theorem dX2_leastThatWillDo_38 : decode cX2_leastThatWillDo 38 = .ok (.invokevirtual 23, 3) := by decide +kernel
theorem dX2_leastThatWillDo_41 : decode cX2_leastThatWillDo 41 = .ok (.ifCond .eq 16, 3) := by decide +kernel
theorem dX2_leastThatWillDo_44 : decode cX2_leastThatWillDo 44 = .ok (.iload 10, 2) := by decide +kernel
theorem dX2_leastThatWillDo_46 : decode cX2_leastThatWillDo 46 = .ok (.istore 7, 2) := by decide +kernel
theorem dX2_leastThatWillDo_48 : decode cX2_leastThatWillDo 48 = .ok (.aload_n 0, 1) := by decide +kernel
theorem dX2_leastThatWillDo_49 : decode cX2_leastThatWillDo 49 = .ok (.getfield 9, 3) := by decide +kernel
theorem dX2_leastThatWillDo_52 : decode cX2_leastThatWillDo 52 = .ok (.iload 10, 2) := by decide +kernel
theorem dX2_leastThatWillDo_54 : decode cX2_leastThatWillDo 54 = .ok (.laload, 1) := by decide +kernel
theorem dX2_leastThatWillDo_55 : decode cX2_leastThatWillDo 55 = .ok (.lstore 8, 2) := by decide +kernel
theorem dX2_leastThatWillDo_57 : decode cX2_leastThatWillDo 57 = .ok (.iinc 10 1, 3) := by decide +kernel
theorem dX2_leastThatWillDo_60 : decode cX2_leastThatWillDo 60 = .ok (.goto (-49), 3) := by decide +kernel
theorem dX2_leastThatWillDo_63 : decode cX2_leastThatWillDo 63 = .ok (.iload 7, 2) := by decide +kernel
theorem dX2_leastThatWillDo_65 : decode cX2_leastThatWillDo 65 = .ok (.ireturn, 1) := by decide +kernel
theorem dX2_willDo_0 : decode cX2_willDo 0 = .ok (.aload_n 0, 1) := by decide +kernel
theorem dX2_willDo_1 : decode cX2_willDo 1 = .ok (.getfield 9, 3) := by decide +kernel
theorem dX2_willDo_4 : decode cX2_willDo 4 = .ok (.iload_n 1, 1) := by decide +kernel
theorem dX2_willDo_5 : decode cX2_willDo 5 = .ok (.laload, 1) := by decide +kernel
theorem dX2_willDo_6 : decode cX2_willDo 6 = .ok (.lconst 0, 1) := by decide +kernel
theorem dX2_willDo_7 : decode cX2_willDo 7 = .ok (.lcmp, 1) := by decide +kernel
theorem dX2_willDo_8 : decode cX2_willDo 8 = .ok (.ifCond .le 39, 3) := by decide +kernel
theorem dX2_willDo_11 : decode cX2_willDo 11 = .ok (.aload_n 0, 1) := by decide +kernel
theorem dX2_willDo_12 : decode cX2_willDo 12 = .ok (.getfield 15, 3) := by decide +kernel
theorem dX2_willDo_15 : decode cX2_willDo 15 = .ok (.iload_n 1, 1) := by decide +kernel
theorem dX2_willDo_16 : decode cX2_willDo 16 = .ok (.laload, 1) := by decide +kernel
theorem dX2_willDo_17 : decode cX2_willDo 17 = .ok (.lload_n 2, 1) := by decide +kernel
theorem dX2_willDo_18 : decode cX2_willDo 18 = .ok (.lcmp, 1) := by decide +kernel
theorem dX2_willDo_19 : decode cX2_willDo 19 = .ok (.ifCond .lt 28, 3) := by decide +kernel
theorem dX2_willDo_22 : decode cX2_willDo 22 = .ok (.lload_n 2, 1) := by decide +kernel
theorem dX2_willDo_23 : decode cX2_willDo 23 = .ok (.aload_n 0, 1) := by decide +kernel
theorem dX2_willDo_24 : decode cX2_willDo 24 = .ok (.getfield 18, 3) := by decide +kernel
theorem dX2_willDo_27 : decode cX2_willDo 27 = .ok (.iload_n 1, 1) := by decide +kernel
theorem dX2_willDo_28 : decode cX2_willDo 28 = .ok (.laload, 1) := by decide +kernel
theorem dX2_willDo_29 : decode cX2_willDo 29 = .ok (.lmul, 1) := by decide +kernel
theorem dX2_willDo_30 : decode cX2_willDo 30 = .ok (.lload 6, 2) := by decide +kernel
theorem dX2_willDo_32 : decode cX2_willDo 32 = .ok (.lmul, 1) := by decide +kernel
theorem dX2_willDo_33 : decode cX2_willDo 33 = .ok (.lload 4, 2) := by decide +kernel
theorem dX2_willDo_35 : decode cX2_willDo 35 = .ok (.ldc2_w 27, 3) := by decide +kernel
theorem dX2_willDo_38 : decode cX2_willDo 38 = .ok (.lmul, 1) := by decide +kernel
theorem dX2_willDo_39 : decode cX2_willDo 39 = .ok (.lcmp, 1) := by decide +kernel
theorem dX2_willDo_40 : decode cX2_willDo 40 = .ok (.ifCond .gt 7, 3) := by decide +kernel
theorem dX2_willDo_43 : decode cX2_willDo 43 = .ok (.iconst 1, 1) := by decide +kernel
theorem dX2_willDo_44 : decode cX2_willDo 44 = .ok (.goto 4, 3) := by decide +kernel
theorem dX2_willDo_47 : decode cX2_willDo 47 = .ok (.iconst 0, 1) := by decide +kernel
theorem dX2_willDo_48 : decode cX2_willDo 48 = .ok (.ireturn, 1) := by decide +kernel
theorem dX3_init_0 : decode cX3_init 0 = .ok (.aload_n 0, 1) := by decide +kernel
theorem dX3_init_1 : decode cX3_init 1 = .ok (.invokespecial 3, 3) := by decide +kernel
theorem dX3_init_4 : decode cX3_init 4 = .ok (.aload_n 0, 1) := by decide +kernel
theorem dX3_init_5 : decode cX3_init 5 = .ok (.bipush 16, 2) := by decide +kernel
theorem dX3_init_7 : decode cX3_init 7 = .ok (.newarray .int, 2) := by decide +kernel
theorem dX3_init_9 : decode cX3_init 9 = .ok (.putfield 9, 3) := by decide +kernel
theorem dX3_init_12 : decode cX3_init 12 = .ok (.aload_n 0, 1) := by decide +kernel
theorem dX3_init_13 : decode cX3_init 13 = .ok (.bipush 15, 2) := by decide +kernel
theorem dX3_init_15 : decode cX3_init 15 = .ok (.newarray .int, 2) := by decide +kernel
theorem dX3_init_17 : decode cX3_init 17 = .ok (.putfield 15, 3) := by decide +kernel
theorem dX3_init_20 : decode cX3_init 20 = .ok (.aload_n 0, 1) := by decide +kernel
theorem dX3_init_21 : decode cX3_init 21 = .ok (.bipush 15, 2) := by decide +kernel
theorem dX3_init_23 : decode cX3_init 23 = .ok (.newarray .int, 2) := by decide +kernel
theorem dX3_init_25 : decode cX3_init 25 = .ok (.putfield 18, 3) := by decide +kernel
theorem dX3_init_28 : decode cX3_init 28 = .ok (.aload_n 0, 1) := by decide +kernel
theorem dX3_init_29 : decode cX3_init 29 = .ok (.bipush 15, 2) := by decide +kernel
theorem dX3_init_31 : decode cX3_init 31 = .ok (.newarray .int, 2) := by decide +kernel
theorem dX3_init_33 : decode cX3_init 33 = .ok (.putfield 21, 3) := by decide +kernel
theorem dX3_init_36 : decode cX3_init 36 = .ok (.aload_n 0, 1) := by decide +kernel
theorem dX3_init_37 : decode cX3_init 37 = .ok (.sipush 256, 3) := by decide +kernel
theorem dX3_init_40 : decode cX3_init 40 = .ok (.newarray .long, 2) := by decide +kernel
theorem dX3_init_42 : decode cX3_init 42 = .ok (.putfield 24, 3) := by decide +kernel
theorem dX3_init_45 : decode cX3_init 45 = .ok (.aload_n 0, 1) := by decide +kernel
theorem dX3_init_46 : decode cX3_init 46 = .ok (.iconst 0, 1) := by decide +kernel
theorem dX3_init_47 : decode cX3_init 47 = .ok (.putfield 28, 3) := by decide +kernel
theorem dX3_init_50 : decode cX3_init 50 = .ok (.aload_n 0, 1) := by decide +kernel
theorem dX3_init_51 : decode cX3_init 51 = .ok (.iconst 0, 1) := by decide +kernel
theorem dX3_init_52 : decode cX3_init 52 = .ok (.putfield 32, 3) := by decide +kernel
theorem dX3_init_55 : decode cX3_init 55 = .ok (.return_, 1) := by decide +kernel
theorem dX3_nodeCount_0 : decode cX3_nodeCount 0 = .ok (.aload_n 0, 1) := by decide +kernel
theorem dX3_nodeCount_1 : decode cX3_nodeCount 1 = .ok (.getfield 28, 3) := by decide +kernel
theorem dX3_nodeCount_4 : decode cX3_nodeCount 4 = .ok (.ireturn, 1) := by decide +kernel
theorem dX3_bundleCount_0 : decode cX3_bundleCount 0 = .ok (.aload_n 0, 1) := by decide +kernel
theorem dX3_bundleCount_1 : decode cX3_bundleCount 1 = .ok (.getfield 32, 3) := by decide +kernel
theorem dX3_bundleCount_4 : decode cX3_bundleCount 4 = .ok (.ireturn, 1) := by decide +kernel
theorem dX3_cavitiesOf_0 : decode cX3_cavitiesOf 0 = .ok (.aload_n 0, 1) := by decide +kernel
theorem dX3_cavitiesOf_1 : decode cX3_cavitiesOf 1 = .ok (.getfield 9, 3) := by decide +kernel
theorem dX3_cavitiesOf_4 : decode cX3_cavitiesOf 4 = .ok (.iload_n 1, 1) := by decide +kernel
theorem dX3_cavitiesOf_5 : decode cX3_cavitiesOf 5 = .ok (.iaload, 1) := by decide +kernel
theorem dX3_cavitiesOf_6 : decode cX3_cavitiesOf 6 = .ok (.ireturn, 1) := by decide +kernel
theorem dX3_firstNode_0 : decode cX3_firstNode 0 = .ok (.aload_n 0, 1) := by decide +kernel
theorem dX3_firstNode_1 : decode cX3_firstNode 1 = .ok (.getfield 15, 3) := by decide +kernel
theorem dX3_firstNode_4 : decode cX3_firstNode 4 = .ok (.iload_n 1, 1) := by decide +kernel
theorem dX3_firstNode_5 : decode cX3_firstNode 5 = .ok (.iaload, 1) := by decide +kernel
theorem dX3_firstNode_6 : decode cX3_firstNode 6 = .ok (.ireturn, 1) := by decide +kernel
theorem dX3_otherNode_0 : decode cX3_otherNode 0 = .ok (.aload_n 0, 1) := by decide +kernel
theorem dX3_otherNode_1 : decode cX3_otherNode 1 = .ok (.getfield 18, 3) := by decide +kernel
theorem dX3_otherNode_4 : decode cX3_otherNode 4 = .ok (.iload_n 1, 1) := by decide +kernel
theorem dX3_otherNode_5 : decode cX3_otherNode 5 = .ok (.iaload, 1) := by decide +kernel
theorem dX3_otherNode_6 : decode cX3_otherNode 6 = .ok (.ireturn, 1) := by decide +kernel
theorem dX3_bundleLength_0 : decode cX3_bundleLength 0 = .ok (.aload_n 0, 1) := by decide +kernel
theorem dX3_bundleLength_1 : decode cX3_bundleLength 1 = .ok (.getfield 21, 3) := by decide +kernel
theorem dX3_bundleLength_4 : decode cX3_bundleLength 4 = .ok (.iload_n 1, 1) := by decide +kernel
theorem dX3_bundleLength_5 : decode cX3_bundleLength 5 = .ok (.iaload, 1) := by decide +kernel
theorem dX3_bundleLength_6 : decode cX3_bundleLength 6 = .ok (.ireturn, 1) := by decide +kernel
theorem dX3_wayBetween_0 : decode cX3_wayBetween 0 = .ok (.aload_n 0, 1) := by decide +kernel
theorem dX3_wayBetween_1 : decode cX3_wayBetween 1 = .ok (.getfield 24, 3) := by decide +kernel
theorem dX3_wayBetween_4 : decode cX3_wayBetween 4 = .ok (.iload_n 1, 1) := by decide +kernel
theorem dX3_wayBetween_5 : decode cX3_wayBetween 5 = .ok (.bipush 16, 2) := by decide +kernel
theorem dX3_wayBetween_7 : decode cX3_wayBetween 7 = .ok (.imul, 1) := by decide +kernel
theorem dX3_wayBetween_8 : decode cX3_wayBetween 8 = .ok (.iload_n 2, 1) := by decide +kernel
theorem dX3_wayBetween_9 : decode cX3_wayBetween 9 = .ok (.iadd, 1) := by decide +kernel
theorem dX3_wayBetween_10 : decode cX3_wayBetween 10 = .ok (.laload, 1) := by decide +kernel
theorem dX3_wayBetween_11 : decode cX3_wayBetween 11 = .ok (.lreturn, 1) := by decide +kernel
set_option maxRecDepth 20000 in
theorem ggX3_addNode_X3_setWay : GoodIn wsX3_addNode wsX3_setWay := goodIn_ca (goodIn_r _ [8, 9, 10, 11, 12, 13, 14, 15, 16] (by decide +kernel) (by decide +kernel)) (goodIn_sub (fun _ h => List.mem_cons_of_mem _ (List.mem_append_right _ h)) (by decide +kernel))
set_option maxRecDepth 20000 in
theorem gX3_addNode_X3_setWay : GoodIn wsX3_addNode (wsV RX3 37 RX3 yX3_setWay wsX3_setWay) := goodIn_app (goodIn_of _ (by decide +kernel)) ggX3_addNode_X3_setWay
theorem dX3_addNode_0 : decode cX3_addNode 0 = .ok (.aload_n 0, 1) := by decide +kernel
theorem dX3_addNode_1 : decode cX3_addNode 1 = .ok (.getfield 28, 3) := by decide +kernel
theorem dX3_addNode_4 : decode cX3_addNode 4 = .ok (.bipush 16, 2) := by decide +kernel
theorem dX3_addNode_6 : decode cX3_addNode 6 = .ok (.if_icmp .lt 5, 3) := by decide +kernel
theorem dX3_addNode_9 : decode cX3_addNode 9 = .ok (.iconst (-1), 1) := by decide +kernel
theorem dX3_addNode_10 : decode cX3_addNode 10 = .ok (.ireturn, 1) := by decide +kernel
theorem dX3_addNode_11 : decode cX3_addNode 11 = .ok (.aload_n 0, 1) := by decide +kernel
theorem dX3_addNode_12 : decode cX3_addNode 12 = .ok (.getfield 9, 3) := by decide +kernel
theorem dX3_addNode_15 : decode cX3_addNode 15 = .ok (.aload_n 0, 1) := by decide +kernel
theorem dX3_addNode_16 : decode cX3_addNode 16 = .ok (.getfield 28, 3) := by decide +kernel
theorem dX3_addNode_19 : decode cX3_addNode 19 = .ok (.iload_n 1, 1) := by decide +kernel
theorem dX3_addNode_20 : decode cX3_addNode 20 = .ok (.iastore, 1) := by decide +kernel
theorem dX3_addNode_21 : decode cX3_addNode 21 = .ok (.iconst 0, 1) := by decide +kernel
theorem dX3_addNode_22 : decode cX3_addNode 22 = .ok (.istore_n 2, 1) := by decide +kernel
theorem dX3_addNode_23 : decode cX3_addNode 23 = .ok (.iload_n 2, 1) := by decide +kernel
theorem dX3_addNode_24 : decode cX3_addNode 24 = .ok (.aload_n 0, 1) := by decide +kernel
theorem dX3_addNode_25 : decode cX3_addNode 25 = .ok (.getfield 28, 3) := by decide +kernel
theorem dX3_addNode_28 : decode cX3_addNode 28 = .ok (.if_icmp .ge 21, 3) := by decide +kernel
theorem dX3_addNode_31 : decode cX3_addNode 31 = .ok (.aload_n 0, 1) := by decide +kernel
theorem dX3_addNode_32 : decode cX3_addNode 32 = .ok (.aload_n 0, 1) := by decide +kernel
theorem dX3_addNode_33 : decode cX3_addNode 33 = .ok (.getfield 28, 3) := by decide +kernel
theorem dX3_addNode_36 : decode cX3_addNode 36 = .ok (.iload_n 2, 1) := by decide +kernel
theorem dX3_addNode_37 : decode cX3_addNode 37 = .ok (.ldc2_w 35, 3) := by decide +kernel
theorem dX3_addNode_40 : decode cX3_addNode 40 = .ok (.invokevirtual 37, 3) := by decide +kernel
theorem dX3_addNode_43 : decode cX3_addNode 43 = .ok (.iinc 2 1, 3) := by decide +kernel
theorem dX3_addNode_46 : decode cX3_addNode 46 = .ok (.goto (-23), 3) := by decide +kernel
theorem dX3_addNode_49 : decode cX3_addNode 49 = .ok (.aload_n 0, 1) := by decide +kernel
theorem dX3_addNode_50 : decode cX3_addNode 50 = .ok (.aload_n 0, 1) := by decide +kernel
theorem dX3_addNode_51 : decode cX3_addNode 51 = .ok (.getfield 28, 3) := by decide +kernel
theorem dX3_addNode_54 : decode cX3_addNode 54 = .ok (.aload_n 0, 1) := by decide +kernel
theorem dX3_addNode_55 : decode cX3_addNode 55 = .ok (.getfield 28, 3) := by decide +kernel
theorem dX3_addNode_58 : decode cX3_addNode 58 = .ok (.lconst 0, 1) := by decide +kernel
theorem dX3_addNode_59 : decode cX3_addNode 59 = .ok (.invokevirtual 37, 3) := by decide +kernel
theorem dX3_addNode_62 : decode cX3_addNode 62 = .ok (.aload_n 0, 1) := by decide +kernel
theorem dX3_addNode_63 : decode cX3_addNode 63 = .ok (.dup, 1) := by decide +kernel
theorem dX3_addNode_64 : decode cX3_addNode 64 = .ok (.getfield 28, 3) := by decide +kernel
theorem dX3_addNode_67 : decode cX3_addNode 67 = .ok (.iconst 1, 1) := by decide +kernel
theorem dX3_addNode_68 : decode cX3_addNode 68 = .ok (.iadd, 1) := by decide +kernel
theorem dX3_addNode_69 : decode cX3_addNode 69 = .ok (.putfield 28, 3) := by decide +kernel
theorem dX3_addNode_72 : decode cX3_addNode 72 = .ok (.aload_n 0, 1) := by decide +kernel
theorem dX3_addNode_73 : decode cX3_addNode 73 = .ok (.getfield 28, 3) := by decide +kernel
theorem dX3_addNode_76 : decode cX3_addNode 76 = .ok (.iconst 1, 1) := by decide +kernel
theorem dX3_addNode_77 : decode cX3_addNode 77 = .ok (.isub, 1) := by decide +kernel
theorem dX3_addNode_78 : decode cX3_addNode 78 = .ok (.ireturn, 1) := by decide +kernel
set_option maxRecDepth 20000 in
theorem ggX3_addBundle_X3_wayBetween : GoodIn wsX3_addBundle wsX3_wayBetween := goodIn_ca (goodIn_r _ [10, 11, 28, 29, 30, 31, 32, 33, 34] (by decide +kernel) (by decide +kernel)) (goodIn_sub (fun _ h => List.mem_cons_of_mem _ (List.mem_append_right _ h)) (by decide +kernel))
set_option maxRecDepth 20000 in
theorem gX3_addBundle_X3_wayBetween : GoodIn wsX3_addBundle (wsV RX3 41 RX3 yX3_wayBetween wsX3_wayBetween) := goodIn_app (goodIn_of _ (by decide +kernel)) ggX3_addBundle_X3_wayBetween
set_option maxRecDepth 20000 in
theorem ggX3_addBundle_X3_joinTrees : GoodIn wsX3_addBundle wsX3_joinTrees := goodIn_ca (goodIn_r _ [15, 16, 17, 18, 19, 9, 20, 1, 6, 7, 8, 10, 11, 21, 22, 23, 24, 25, 26, 27, 28, 29, 30, 31, 32, 33, 34] (by decide +kernel) (by decide +kernel)) (goodIn_sub (fun _ h => List.mem_cons_of_mem _ (List.mem_append_right _ h)) (by decide +kernel))
set_option maxRecDepth 20000 in
theorem gX3_addBundle_X3_joinTrees : GoodIn wsX3_addBundle (wsV RX3 45 RX3 yX3_joinTrees wsX3_joinTrees) := goodIn_app (goodIn_of _ (by decide +kernel)) ggX3_addBundle_X3_joinTrees
theorem dX3_addBundle_0 : decode cX3_addBundle 0 = .ok (.aload_n 0, 1) := by decide +kernel
theorem dX3_addBundle_1 : decode cX3_addBundle 1 = .ok (.iload_n 1, 1) := by decide +kernel
theorem dX3_addBundle_2 : decode cX3_addBundle 2 = .ok (.iload_n 2, 1) := by decide +kernel
theorem dX3_addBundle_3 : decode cX3_addBundle 3 = .ok (.invokevirtual 41, 3) := by decide +kernel
theorem dX3_addBundle_6 : decode cX3_addBundle 6 = .ok (.ldc2_w 35, 3) := by decide +kernel
theorem dX3_addBundle_9 : decode cX3_addBundle 9 = .ok (.lcmp, 1) := by decide +kernel
theorem dX3_addBundle_10 : decode cX3_addBundle 10 = .ok (.ifCond .ne 12, 3) := by decide +kernel
theorem dX3_addBundle_13 : decode cX3_addBundle 13 = .ok (.aload_n 0, 1) := by decide +kernel
theorem dX3_addBundle_14 : decode cX3_addBundle 14 = .ok (.getfield 32, 3) := by decide +kernel
theorem dX3_addBundle_17 : decode cX3_addBundle 17 = .ok (.bipush 15, 2) := by decide +kernel
theorem dX3_addBundle_19 : decode cX3_addBundle 19 = .ok (.if_icmp .lt 5, 3) := by decide +kernel
theorem dX3_addBundle_22 : decode cX3_addBundle 22 = .ok (.iconst (-1), 1) := by decide +kernel
theorem dX3_addBundle_23 : decode cX3_addBundle 23 = .ok (.ireturn, 1) := by decide +kernel
theorem dX3_addBundle_24 : decode cX3_addBundle 24 = .ok (.aload_n 0, 1) := by decide +kernel
theorem dX3_addBundle_25 : decode cX3_addBundle 25 = .ok (.getfield 15, 3) := by decide +kernel
theorem dX3_addBundle_28 : decode cX3_addBundle 28 = .ok (.aload_n 0, 1) := by decide +kernel
theorem dX3_addBundle_29 : decode cX3_addBundle 29 = .ok (.getfield 32, 3) := by decide +kernel
theorem dX3_addBundle_32 : decode cX3_addBundle 32 = .ok (.iload_n 1, 1) := by decide +kernel
theorem dX3_addBundle_33 : decode cX3_addBundle 33 = .ok (.iastore, 1) := by decide +kernel
theorem dX3_addBundle_34 : decode cX3_addBundle 34 = .ok (.aload_n 0, 1) := by decide +kernel
theorem dX3_addBundle_35 : decode cX3_addBundle 35 = .ok (.getfield 18, 3) := by decide +kernel
theorem dX3_addBundle_38 : decode cX3_addBundle 38 = .ok (.aload_n 0, 1) := by decide +kernel
theorem dX3_addBundle_39 : decode cX3_addBundle 39 = .ok (.getfield 32, 3) := by decide +kernel
theorem dX3_addBundle_42 : decode cX3_addBundle 42 = .ok (.iload_n 2, 1) := by decide +kernel
theorem dX3_addBundle_43 : decode cX3_addBundle 43 = .ok (.iastore, 1) := by decide +kernel
theorem dX3_addBundle_44 : decode cX3_addBundle 44 = .ok (.aload_n 0, 1) := by decide +kernel
theorem dX3_addBundle_45 : decode cX3_addBundle 45 = .ok (.getfield 21, 3) := by decide +kernel
theorem dX3_addBundle_48 : decode cX3_addBundle 48 = .ok (.aload_n 0, 1) := by decide +kernel
theorem dX3_addBundle_49 : decode cX3_addBundle 49 = .ok (.getfield 32, 3) := by decide +kernel
theorem dX3_addBundle_52 : decode cX3_addBundle 52 = .ok (.lload_n 3, 1) := by decide +kernel
theorem dX3_addBundle_53 : decode cX3_addBundle 53 = .ok (.l2i, 1) := by decide +kernel
theorem dX3_addBundle_54 : decode cX3_addBundle 54 = .ok (.iastore, 1) := by decide +kernel
theorem dX3_addBundle_55 : decode cX3_addBundle 55 = .ok (.aload_n 0, 1) := by decide +kernel
theorem dX3_addBundle_56 : decode cX3_addBundle 56 = .ok (.iload_n 1, 1) := by decide +kernel
theorem dX3_addBundle_57 : decode cX3_addBundle 57 = .ok (.iload_n 2, 1) := by decide +kernel
theorem dX3_addBundle_58 : decode cX3_addBundle 58 = .ok (.lload_n 3, 1) := by decide +kernel
theorem dX3_addBundle_59 : decode cX3_addBundle 59 = .ok (.invokevirtual 45, 3) := by decide +kernel
theorem dX3_addBundle_62 : decode cX3_addBundle 62 = .ok (.aload_n 0, 1) := by decide +kernel
theorem dX3_addBundle_63 : decode cX3_addBundle 63 = .ok (.dup, 1) := by decide +kernel
theorem dX3_addBundle_64 : decode cX3_addBundle 64 = .ok (.getfield 32, 3) := by decide +kernel
theorem dX3_addBundle_67 : decode cX3_addBundle 67 = .ok (.iconst 1, 1) := by decide +kernel
theorem dX3_addBundle_68 : decode cX3_addBundle 68 = .ok (.iadd, 1) := by decide +kernel
theorem dX3_addBundle_69 : decode cX3_addBundle 69 = .ok (.putfield 32, 3) := by decide +kernel
theorem dX3_addBundle_72 : decode cX3_addBundle 72 = .ok (.aload_n 0, 1) := by decide +kernel
theorem dX3_addBundle_73 : decode cX3_addBundle 73 = .ok (.getfield 32, 3) := by decide +kernel
theorem dX3_addBundle_76 : decode cX3_addBundle 76 = .ok (.iconst 1, 1) := by decide +kernel
theorem dX3_addBundle_77 : decode cX3_addBundle 77 = .ok (.isub, 1) := by decide +kernel
theorem dX3_addBundle_78 : decode cX3_addBundle 78 = .ok (.ireturn, 1) := by decide +kernel
set_option maxRecDepth 20000 in
theorem ggX3_joinTrees_X3_treeOf : GoodIn wsX3_joinTrees wsX3_treeOf := goodIn_ca (goodIn_r _ [6, 1, 7, 8, 9, 10, 5, 11, 12, 20, 21, 22, 23, 24, 25, 26] (by decide +kernel) (by decide +kernel)) (goodIn_sub (fun _ h => List.mem_cons_of_mem _ (List.mem_append_right _ h)) (by decide +kernel))
set_option maxRecDepth 20000 in
theorem gX3_joinTrees_X3_treeOf : GoodIn wsX3_joinTrees (wsV RX3 48 RX3 yX3_treeOf wsX3_treeOf) := goodIn_app (goodIn_of _ (by decide +kernel)) ggX3_joinTrees_X3_treeOf
set_option maxRecDepth 20000 in
theorem ggX3_joinTrees_X6_hasBit : GoodIn wsX3_joinTrees wsX6_hasBit := goodIn_r _ [15] (by decide +kernel) (by decide +kernel)
set_option maxRecDepth 20000 in
theorem gX3_joinTrees_X6_hasBit_n52 : GoodIn wsX3_joinTrees (wsX6_hasBit) := ggX3_joinTrees_X6_hasBit
set_option maxRecDepth 20000 in
theorem ggX3_joinTrees_X3_wayBetween : GoodIn wsX3_joinTrees wsX3_wayBetween := goodIn_ca (goodIn_r _ [11, 12, 20, 21, 22, 23, 24, 25, 26] (by decide +kernel) (by decide +kernel)) (goodIn_sub (fun _ h => List.mem_cons_of_mem _ (List.mem_append_right _ h)) (by decide +kernel))
set_option maxRecDepth 20000 in
theorem gX3_joinTrees_X3_wayBetween : GoodIn wsX3_joinTrees (wsV RX3 41 RX3 yX3_wayBetween wsX3_wayBetween) := goodIn_app (goodIn_of _ (by decide +kernel)) ggX3_joinTrees_X3_wayBetween
set_option maxRecDepth 20000 in
theorem ggX3_joinTrees_X3_setWay : GoodIn wsX3_joinTrees wsX3_setWay := goodIn_ca (goodIn_r _ [19, 12, 20, 21, 22, 23, 24, 25, 26] (by decide +kernel) (by decide +kernel)) (goodIn_sub (fun _ h => List.mem_cons_of_mem _ (List.mem_append_right _ h)) (by decide +kernel))
set_option maxRecDepth 20000 in
theorem gX3_joinTrees_X3_setWay : GoodIn wsX3_joinTrees (wsV RX3 37 RX3 yX3_setWay wsX3_setWay) := goodIn_app (goodIn_of _ (by decide +kernel)) ggX3_joinTrees_X3_setWay
theorem dX3_joinTrees_0 : decode cX3_joinTrees 0 = .ok (.aload_n 0, 1) := by decide +kernel
theorem dX3_joinTrees_1 : decode cX3_joinTrees 1 = .ok (.iload_n 1, 1) := by decide +kernel
theorem dX3_joinTrees_2 : decode cX3_joinTrees 2 = .ok (.invokevirtual 48, 3) := by decide +kernel
theorem dX3_joinTrees_5 : decode cX3_joinTrees 5 = .ok (.istore 5, 2) := by decide +kernel
theorem dX3_joinTrees_7 : decode cX3_joinTrees 7 = .ok (.aload_n 0, 1) := by decide +kernel
theorem dX3_joinTrees_8 : decode cX3_joinTrees 8 = .ok (.iload_n 2, 1) := by decide +kernel
theorem dX3_joinTrees_9 : decode cX3_joinTrees 9 = .ok (.invokevirtual 48, 3) := by decide +kernel
theorem dX3_joinTrees_12 : decode cX3_joinTrees 12 = .ok (.istore 6, 2) := by decide +kernel
theorem dX3_joinTrees_14 : decode cX3_joinTrees 14 = .ok (.iconst 0, 1) := by decide +kernel
theorem dX3_joinTrees_15 : decode cX3_joinTrees 15 = .ok (.istore 7, 2) := by decide +kernel
theorem dX3_joinTrees_17 : decode cX3_joinTrees 17 = .ok (.iload 7, 2) := by decide +kernel
theorem dX3_joinTrees_19 : decode cX3_joinTrees 19 = .ok (.aload_n 0, 1) := by decide +kernel
theorem dX3_joinTrees_20 : decode cX3_joinTrees 20 = .ok (.getfield 28, 3) := by decide +kernel
theorem dX3_joinTrees_23 : decode cX3_joinTrees 23 = .ok (.if_icmp .ge 72, 3) := by decide +kernel
theorem dX3_joinTrees_26 : decode cX3_joinTrees 26 = .ok (.iconst 0, 1) := by decide +kernel
theorem dX3_joinTrees_27 : decode cX3_joinTrees 27 = .ok (.istore 8, 2) := by decide +kernel
theorem dX3_joinTrees_29 : decode cX3_joinTrees 29 = .ok (.iload 8, 2) := by decide +kernel
theorem dX3_joinTrees_31 : decode cX3_joinTrees 31 = .ok (.aload_n 0, 1) := by decide +kernel
theorem dX3_joinTrees_32 : decode cX3_joinTrees 32 = .ok (.getfield 28, 3) := by decide +kernel
theorem dX3_joinTrees_35 : decode cX3_joinTrees 35 = .ok (.if_icmp .ge 54, 3) := by decide +kernel
theorem dX3_joinTrees_38 : decode cX3_joinTrees 38 = .ok (.iload 5, 2) := by decide +kernel
theorem dX3_joinTrees_40 : decode cX3_joinTrees 40 = .ok (.iload 7, 2) := by decide +kernel
theorem dX3_joinTrees_42 : decode cX3_joinTrees 42 = .ok (.invokestatic 52, 3) := by decide +kernel
theorem dX3_joinTrees_45 : decode cX3_joinTrees 45 = .ok (.ifCond .eq 38, 3) := by decide +kernel
theorem dX3_joinTrees_48 : decode cX3_joinTrees 48 = .ok (.iload 6, 2) := by decide +kernel
theorem dX3_joinTrees_50 : decode cX3_joinTrees 50 = .ok (.iload 8, 2) := by decide +kernel
theorem dX3_joinTrees_52 : decode cX3_joinTrees 52 = .ok (.invokestatic 52, 3) := by decide +kernel
theorem dX3_joinTrees_55 : decode cX3_joinTrees 55 = .ok (.ifCond .eq 28, 3) := by decide +kernel
theorem dX3_joinTrees_58 : decode cX3_joinTrees 58 = .ok (.aload_n 0, 1) := by decide +kernel
theorem dX3_joinTrees_59 : decode cX3_joinTrees 59 = .ok (.iload 7, 2) := by decide +kernel
theorem dX3_joinTrees_61 : decode cX3_joinTrees 61 = .ok (.iload 8, 2) := by decide +kernel
theorem dX3_joinTrees_63 : decode cX3_joinTrees 63 = .ok (.aload_n 0, 1) := by decide +kernel
theorem dX3_joinTrees_64 : decode cX3_joinTrees 64 = .ok (.iload 7, 2) := by decide +kernel
theorem dX3_joinTrees_66 : decode cX3_joinTrees 66 = .ok (.iload_n 1, 1) := by decide +kernel
theorem dX3_joinTrees_67 : decode cX3_joinTrees 67 = .ok (.invokevirtual 41, 3) := by decide +kernel
theorem dX3_joinTrees_70 : decode cX3_joinTrees 70 = .ok (.lload_n 3, 1) := by decide +kernel
theorem dX3_joinTrees_71 : decode cX3_joinTrees 71 = .ok (.ladd, 1) := by decide +kernel
theorem dX3_joinTrees_72 : decode cX3_joinTrees 72 = .ok (.aload_n 0, 1) := by decide +kernel
theorem dX3_joinTrees_73 : decode cX3_joinTrees 73 = .ok (.iload_n 2, 1) := by decide +kernel
theorem dX3_joinTrees_74 : decode cX3_joinTrees 74 = .ok (.iload 8, 2) := by decide +kernel
theorem dX3_joinTrees_76 : decode cX3_joinTrees 76 = .ok (.invokevirtual 41, 3) := by decide +kernel
theorem dX3_joinTrees_79 : decode cX3_joinTrees 79 = .ok (.ladd, 1) := by decide +kernel
theorem dX3_joinTrees_80 : decode cX3_joinTrees 80 = .ok (.invokevirtual 37, 3) := by decide +kernel
theorem dX3_joinTrees_83 : decode cX3_joinTrees 83 = .ok (.iinc 8 1, 3) := by decide +kernel
theorem dX3_joinTrees_86 : decode cX3_joinTrees 86 = .ok (.goto (-57), 3) := by decide +kernel
theorem dX3_joinTrees_89 : decode cX3_joinTrees 89 = .ok (.iinc 7 1, 3) := by decide +kernel
theorem dX3_joinTrees_92 : decode cX3_joinTrees 92 = .ok (.goto (-75), 3) := by decide +kernel
theorem dX3_joinTrees_95 : decode cX3_joinTrees 95 = .ok (.return_, 1) := by decide +kernel
set_option maxRecDepth 20000 in
theorem ggX3_treeOf_X3_wayBetween : GoodIn wsX3_treeOf wsX3_wayBetween := goodIn_ca (goodIn_r _ [7, 8, 9, 10, 11, 12, 13, 14, 15] (by decide +kernel) (by decide +kernel)) (goodIn_sub (fun _ h => List.mem_cons_of_mem _ (List.mem_append_right _ h)) (by decide +kernel))
set_option maxRecDepth 20000 in
theorem gX3_treeOf_X3_wayBetween : GoodIn wsX3_treeOf (wsV RX3 41 RX3 yX3_wayBetween wsX3_wayBetween) := goodIn_app (goodIn_of _ (by decide +kernel)) ggX3_treeOf_X3_wayBetween
theorem dX3_treeOf_0 : decode cX3_treeOf 0 = .ok (.iconst 0, 1) := by decide +kernel
theorem dX3_treeOf_1 : decode cX3_treeOf 1 = .ok (.istore_n 2, 1) := by decide +kernel
theorem dX3_treeOf_2 : decode cX3_treeOf 2 = .ok (.iconst 0, 1) := by decide +kernel
theorem dX3_treeOf_3 : decode cX3_treeOf 3 = .ok (.istore_n 3, 1) := by decide +kernel
theorem dX3_treeOf_4 : decode cX3_treeOf 4 = .ok (.iload_n 3, 1) := by decide +kernel
theorem dX3_treeOf_5 : decode cX3_treeOf 5 = .ok (.aload_n 0, 1) := by decide +kernel
theorem dX3_treeOf_6 : decode cX3_treeOf 6 = .ok (.getfield 28, 3) := by decide +kernel
theorem dX3_treeOf_9 : decode cX3_treeOf 9 = .ok (.if_icmp .ge 28, 3) := by decide +kernel
theorem dX3_treeOf_12 : decode cX3_treeOf 12 = .ok (.aload_n 0, 1) := by decide +kernel
theorem dX3_treeOf_13 : decode cX3_treeOf 13 = .ok (.iload_n 1, 1) := by decide +kernel
theorem dX3_treeOf_14 : decode cX3_treeOf 14 = .ok (.iload_n 3, 1) := by decide +kernel
theorem dX3_treeOf_15 : decode cX3_treeOf 15 = .ok (.invokevirtual 41, 3) := by decide +kernel
theorem dX3_treeOf_18 : decode cX3_treeOf 18 = .ok (.ldc2_w 35, 3) := by decide +kernel
theorem dX3_treeOf_21 : decode cX3_treeOf 21 = .ok (.lcmp, 1) := by decide +kernel
theorem dX3_treeOf_22 : decode cX3_treeOf 22 = .ok (.ifCond .eq 9, 3) := by decide +kernel
theorem dX3_treeOf_25 : decode cX3_treeOf 25 = .ok (.iload_n 2, 1) := by decide +kernel
theorem dX3_treeOf_26 : decode cX3_treeOf 26 = .ok (.iconst 1, 1) := by decide +kernel
theorem dX3_treeOf_27 : decode cX3_treeOf 27 = .ok (.iload_n 3, 1) := by decide +kernel
theorem dX3_treeOf_28 : decode cX3_treeOf 28 = .ok (.ishl, 1) := by decide +kernel
theorem dX3_treeOf_29 : decode cX3_treeOf 29 = .ok (.ior, 1) := by decide +kernel
theorem dX3_treeOf_30 : decode cX3_treeOf 30 = .ok (.istore_n 2, 1) := by decide +kernel
theorem dX3_treeOf_31 : decode cX3_treeOf 31 = .ok (.iinc 3 1, 3) := by decide +kernel
theorem dX3_treeOf_34 : decode cX3_treeOf 34 = .ok (.goto (-30), 3) := by decide +kernel
theorem dX3_treeOf_37 : decode cX3_treeOf 37 = .ok (.iload_n 2, 1) := by decide +kernel
theorem dX3_treeOf_38 : decode cX3_treeOf 38 = .ok (.ireturn, 1) := by decide +kernel
theorem dX3_setWay_0 : decode cX3_setWay 0 = .ok (.aload_n 0, 1) := by decide +kernel
theorem dX3_setWay_1 : decode cX3_setWay 1 = .ok (.getfield 24, 3) := by decide +kernel
theorem dX3_setWay_4 : decode cX3_setWay 4 = .ok (.iload_n 1, 1) := by decide +kernel
theorem dX3_setWay_5 : decode cX3_setWay 5 = .ok (.bipush 16, 2) := by decide +kernel
theorem dX3_setWay_7 : decode cX3_setWay 7 = .ok (.imul, 1) := by decide +kernel
theorem dX3_setWay_8 : decode cX3_setWay 8 = .ok (.iload_n 2, 1) := by decide +kernel
theorem dX3_setWay_9 : decode cX3_setWay 9 = .ok (.iadd, 1) := by decide +kernel
theorem dX3_setWay_10 : decode cX3_setWay 10 = .ok (.lload_n 3, 1) := by decide +kernel
theorem dX3_setWay_11 : decode cX3_setWay 11 = .ok (.lastore, 1) := by decide +kernel
theorem dX3_setWay_12 : decode cX3_setWay 12 = .ok (.aload_n 0, 1) := by decide +kernel
theorem dX3_setWay_13 : decode cX3_setWay 13 = .ok (.getfield 24, 3) := by decide +kernel
theorem dX3_setWay_16 : decode cX3_setWay 16 = .ok (.iload_n 2, 1) := by decide +kernel
theorem dX3_setWay_17 : decode cX3_setWay 17 = .ok (.bipush 16, 2) := by decide +kernel
theorem dX3_setWay_19 : decode cX3_setWay 19 = .ok (.imul, 1) := by decide +kernel
theorem dX3_setWay_20 : decode cX3_setWay 20 = .ok (.iload_n 1, 1) := by decide +kernel
theorem dX3_setWay_21 : decode cX3_setWay 21 = .ok (.iadd, 1) := by decide +kernel
theorem dX3_setWay_22 : decode cX3_setWay 22 = .ok (.lload_n 3, 1) := by decide +kernel
theorem dX3_setWay_23 : decode cX3_setWay 23 = .ok (.lastore, 1) := by decide +kernel
theorem dX3_setWay_24 : decode cX3_setWay 24 = .ok (.return_, 1) := by decide +kernel
theorem dX4_init_0 : decode cX4_init 0 = .ok (.aload_n 0, 1) := by decide +kernel
theorem dX4_init_1 : decode cX4_init 1 = .ok (.invokespecial 3, 3) := by decide +kernel
theorem dX4_init_4 : decode cX4_init 4 = .ok (.aload_n 0, 1) := by decide +kernel
theorem dX4_init_5 : decode cX4_init 5 = .ok (.bipush 6, 2) := by decide +kernel
theorem dX4_init_7 : decode cX4_init 7 = .ok (.newarray .int, 2) := by decide +kernel
theorem dX4_init_9 : decode cX4_init 9 = .ok (.putfield 9, 3) := by decide +kernel
theorem dX4_init_12 : decode cX4_init 12 = .ok (.aload_n 0, 1) := by decide +kernel
theorem dX4_init_13 : decode cX4_init 13 = .ok (.bipush 6, 2) := by decide +kernel
theorem dX4_init_15 : decode cX4_init 15 = .ok (.newarray .int, 2) := by decide +kernel
theorem dX4_init_17 : decode cX4_init 17 = .ok (.putfield 15, 3) := by decide +kernel
theorem dX4_init_20 : decode cX4_init 20 = .ok (.aload_n 0, 1) := by decide +kernel
theorem dX4_init_21 : decode cX4_init 21 = .ok (.iconst 0, 1) := by decide +kernel
theorem dX4_init_22 : decode cX4_init 22 = .ok (.putfield 18, 3) := by decide +kernel
theorem dX4_init_25 : decode cX4_init 25 = .ok (.return_, 1) := by decide +kernel
theorem dX4_count_0 : decode cX4_count 0 = .ok (.aload_n 0, 1) := by decide +kernel
theorem dX4_count_1 : decode cX4_count 1 = .ok (.getfield 18, 3) := by decide +kernel
theorem dX4_count_4 : decode cX4_count 4 = .ok (.ireturn, 1) := by decide +kernel
theorem dX4_add_0 : decode cX4_add 0 = .ok (.aload_n 0, 1) := by decide +kernel
theorem dX4_add_1 : decode cX4_add 1 = .ok (.getfield 18, 3) := by decide +kernel
theorem dX4_add_4 : decode cX4_add 4 = .ok (.bipush 6, 2) := by decide +kernel
theorem dX4_add_6 : decode cX4_add 6 = .ok (.if_icmp .lt 5, 3) := by decide +kernel
theorem dX4_add_9 : decode cX4_add 9 = .ok (.iconst (-1), 1) := by decide +kernel
theorem dX4_add_10 : decode cX4_add 10 = .ok (.ireturn, 1) := by decide +kernel
theorem dX4_add_11 : decode cX4_add 11 = .ok (.aload_n 0, 1) := by decide +kernel
theorem dX4_add_12 : decode cX4_add 12 = .ok (.dup, 1) := by decide +kernel
theorem dX4_add_13 : decode cX4_add 13 = .ok (.getfield 18, 3) := by decide +kernel
theorem dX4_add_16 : decode cX4_add 16 = .ok (.iconst 1, 1) := by decide +kernel
theorem dX4_add_17 : decode cX4_add 17 = .ok (.iadd, 1) := by decide +kernel
theorem dX4_add_18 : decode cX4_add 18 = .ok (.putfield 18, 3) := by decide +kernel
theorem dX4_add_21 : decode cX4_add 21 = .ok (.aload_n 0, 1) := by decide +kernel
theorem dX4_add_22 : decode cX4_add 22 = .ok (.getfield 18, 3) := by decide +kernel
theorem dX4_add_25 : decode cX4_add 25 = .ok (.iconst 1, 1) := by decide +kernel
theorem dX4_add_26 : decode cX4_add 26 = .ok (.isub, 1) := by decide +kernel
theorem dX4_add_27 : decode cX4_add 27 = .ok (.ireturn, 1) := by decide +kernel
set_option maxRecDepth 20000 in
theorem ggX4_tellWire_X4_isOn : GoodIn wsX4_tellWire wsX4_isOn := goodIn_ca (goodIn_r _ [7, 1, 2, 8, 9, 10, 11, 12, 13] (by decide +kernel) (by decide +kernel)) (goodIn_sub (fun _ h => List.mem_cons_of_mem _ (List.mem_append_right _ h)) (by decide +kernel))
set_option maxRecDepth 20000 in
theorem gX4_tellWire_X4_isOn : GoodIn wsX4_tellWire (wsV RX4 22 RX4 yX4_isOn wsX4_isOn) := goodIn_app (goodIn_of _ (by decide +kernel)) ggX4_tellWire_X4_isOn
theorem dX4_tellWire_0 : decode cX4_tellWire 0 = .ok (.aload_n 0, 1) := by decide +kernel
theorem dX4_tellWire_1 : decode cX4_tellWire 1 = .ok (.iload_n 1, 1) := by decide +kernel
theorem dX4_tellWire_2 : decode cX4_tellWire 2 = .ok (.iload_n 2, 1) := by decide +kernel
theorem dX4_tellWire_3 : decode cX4_tellWire 3 = .ok (.invokevirtual 22, 3) := by decide +kernel
theorem dX4_tellWire_6 : decode cX4_tellWire 6 = .ok (.istore 4, 2) := by decide +kernel
theorem dX4_tellWire_8 : decode cX4_tellWire 8 = .ok (.iconst 1, 1) := by decide +kernel
theorem dX4_tellWire_9 : decode cX4_tellWire 9 = .ok (.iload_n 2, 1) := by decide +kernel
theorem dX4_tellWire_10 : decode cX4_tellWire 10 = .ok (.ishl, 1) := by decide +kernel
theorem dX4_tellWire_11 : decode cX4_tellWire 11 = .ok (.istore 5, 2) := by decide +kernel
theorem dX4_tellWire_13 : decode cX4_tellWire 13 = .ok (.aload_n 0, 1) := by decide +kernel
theorem dX4_tellWire_14 : decode cX4_tellWire 14 = .ok (.getfield 9, 3) := by decide +kernel
theorem dX4_tellWire_17 : decode cX4_tellWire 17 = .ok (.iload_n 1, 1) := by decide +kernel
theorem dX4_tellWire_18 : decode cX4_tellWire 18 = .ok (.dup2, 1) := by decide +kernel
theorem dX4_tellWire_19 : decode cX4_tellWire 19 = .ok (.iaload, 1) := by decide +kernel
theorem dX4_tellWire_20 : decode cX4_tellWire 20 = .ok (.iload 5, 2) := by decide +kernel
theorem dX4_tellWire_22 : decode cX4_tellWire 22 = .ok (.ior, 1) := by decide +kernel
theorem dX4_tellWire_23 : decode cX4_tellWire 23 = .ok (.iastore, 1) := by decide +kernel
theorem dX4_tellWire_24 : decode cX4_tellWire 24 = .ok (.aload_n 0, 1) := by decide +kernel
theorem dX4_tellWire_25 : decode cX4_tellWire 25 = .ok (.getfield 15, 3) := by decide +kernel
theorem dX4_tellWire_28 : decode cX4_tellWire 28 = .ok (.iload_n 1, 1) := by decide +kernel
theorem dX4_tellWire_29 : decode cX4_tellWire 29 = .ok (.iload_n 3, 1) := by decide +kernel
theorem dX4_tellWire_30 : decode cX4_tellWire 30 = .ok (.ifCond .eq 15, 3) := by decide +kernel
theorem dX4_tellWire_33 : decode cX4_tellWire 33 = .ok (.aload_n 0, 1) := by decide +kernel
theorem dX4_tellWire_34 : decode cX4_tellWire 34 = .ok (.getfield 15, 3) := by decide +kernel
theorem dX4_tellWire_37 : decode cX4_tellWire 37 = .ok (.iload_n 1, 1) := by decide +kernel
theorem dX4_tellWire_38 : decode cX4_tellWire 38 = .ok (.iaload, 1) := by decide +kernel
theorem dX4_tellWire_39 : decode cX4_tellWire 39 = .ok (.iload 5, 2) := by decide +kernel
theorem dX4_tellWire_41 : decode cX4_tellWire 41 = .ok (.ior, 1) := by decide +kernel
theorem dX4_tellWire_42 : decode cX4_tellWire 42 = .ok (.goto 14, 3) := by decide +kernel
theorem dX4_tellWire_45 : decode cX4_tellWire 45 = .ok (.aload_n 0, 1) := by decide +kernel
theorem dX4_tellWire_46 : decode cX4_tellWire 46 = .ok (.getfield 15, 3) := by decide +kernel
theorem dX4_tellWire_49 : decode cX4_tellWire 49 = .ok (.iload_n 1, 1) := by decide +kernel
theorem dX4_tellWire_50 : decode cX4_tellWire 50 = .ok (.iaload, 1) := by decide +kernel
theorem dX4_tellWire_51 : decode cX4_tellWire 51 = .ok (.iload 5, 2) := by decide +kernel
theorem dX4_tellWire_53 : decode cX4_tellWire 53 = .ok (.iconst (-1), 1) := by decide +kernel
theorem dX4_tellWire_54 : decode cX4_tellWire 54 = .ok (.ixor, 1) := by decide +kernel
theorem dX4_tellWire_55 : decode cX4_tellWire 55 = .ok (.iand, 1) := by decide +kernel
theorem dX4_tellWire_56 : decode cX4_tellWire 56 = .ok (.iastore, 1) := by decide +kernel
theorem dX4_tellWire_57 : decode cX4_tellWire 57 = .ok (.iload 4, 2) := by decide +kernel
theorem dX4_tellWire_59 : decode cX4_tellWire 59 = .ok (.iload_n 3, 1) := by decide +kernel
theorem dX4_tellWire_60 : decode cX4_tellWire 60 = .ok (.if_icmp .eq 7, 3) := by decide +kernel
theorem dX4_tellWire_63 : decode cX4_tellWire 63 = .ok (.iconst 1, 1) := by decide +kernel
theorem dX4_tellWire_64 : decode cX4_tellWire 64 = .ok (.goto 4, 3) := by decide +kernel
theorem dX4_tellWire_67 : decode cX4_tellWire 67 = .ok (.iconst 0, 1) := by decide +kernel
theorem dX4_tellWire_68 : decode cX4_tellWire 68 = .ok (.ireturn, 1) := by decide +kernel
set_option maxRecDepth 20000 in
theorem ggX4_wireOff_X4_isOn : GoodIn wsX4_wireOff wsX4_isOn := goodIn_ca (goodIn_r _ [6, 7, 8, 9, 10, 11, 12, 13, 14] (by decide +kernel) (by decide +kernel)) (goodIn_sub (fun _ h => List.mem_cons_of_mem _ (List.mem_append_right _ h)) (by decide +kernel))
set_option maxRecDepth 20000 in
theorem gX4_wireOff_X4_isOn : GoodIn wsX4_wireOff (wsV RX4 22 RX4 yX4_isOn wsX4_isOn) := goodIn_app (goodIn_of _ (by decide +kernel)) ggX4_wireOff_X4_isOn
theorem dX4_wireOff_0 : decode cX4_wireOff 0 = .ok (.iload_n 1, 1) := by decide +kernel
theorem dX4_wireOff_1 : decode cX4_wireOff 1 = .ok (.ifCond .lt 10, 3) := by decide +kernel
theorem dX4_wireOff_4 : decode cX4_wireOff 4 = .ok (.aload_n 0, 1) := by decide +kernel
theorem dX4_wireOff_5 : decode cX4_wireOff 5 = .ok (.getfield 18, 3) := by decide +kernel
theorem dX4_wireOff_8 : decode cX4_wireOff 8 = .ok (.ifCond .ne 5, 3) := by decide +kernel
theorem dX4_wireOff_11 : decode cX4_wireOff 11 = .ok (.iconst (-1), 1) := by decide +kernel
theorem dX4_wireOff_12 : decode cX4_wireOff 12 = .ok (.ireturn, 1) := by decide +kernel
theorem dX4_wireOff_13 : decode cX4_wireOff 13 = .ok (.iconst 0, 1) := by decide +kernel
theorem dX4_wireOff_14 : decode cX4_wireOff 14 = .ok (.istore_n 3, 1) := by decide +kernel
theorem dX4_wireOff_15 : decode cX4_wireOff 15 = .ok (.iconst 0, 1) := by decide +kernel
theorem dX4_wireOff_16 : decode cX4_wireOff 16 = .ok (.istore 4, 2) := by decide +kernel
theorem dX4_wireOff_18 : decode cX4_wireOff 18 = .ok (.iload 4, 2) := by decide +kernel
theorem dX4_wireOff_20 : decode cX4_wireOff 20 = .ok (.iload_n 2, 1) := by decide +kernel
theorem dX4_wireOff_21 : decode cX4_wireOff 21 = .ok (.if_icmp .ge 35, 3) := by decide +kernel
theorem dX4_wireOff_24 : decode cX4_wireOff 24 = .ok (.aload_n 0, 1) := by decide +kernel
theorem dX4_wireOff_25 : decode cX4_wireOff 25 = .ok (.aload_n 0, 1) := by decide +kernel
theorem dX4_wireOff_26 : decode cX4_wireOff 26 = .ok (.getfield 18, 3) := by decide +kernel
theorem dX4_wireOff_29 : decode cX4_wireOff 29 = .ok (.iconst 1, 1) := by decide +kernel
theorem dX4_wireOff_30 : decode cX4_wireOff 30 = .ok (.isub, 1) := by decide +kernel
theorem dX4_wireOff_31 : decode cX4_wireOff 31 = .ok (.iload 4, 2) := by decide +kernel
theorem dX4_wireOff_33 : decode cX4_wireOff 33 = .ok (.invokevirtual 22, 3) := by decide +kernel
theorem dX4_wireOff_36 : decode cX4_wireOff 36 = .ok (.ifCond .ne 14, 3) := by decide +kernel
theorem dX4_wireOff_39 : decode cX4_wireOff 39 = .ok (.iload_n 3, 1) := by decide +kernel
theorem dX4_wireOff_40 : decode cX4_wireOff 40 = .ok (.iload_n 1, 1) := by decide +kernel
theorem dX4_wireOff_41 : decode cX4_wireOff 41 = .ok (.if_icmp .ne 6, 3) := by decide +kernel
theorem dX4_wireOff_44 : decode cX4_wireOff 44 = .ok (.iload 4, 2) := by decide +kernel
theorem dX4_wireOff_46 : decode cX4_wireOff 46 = .ok (.ireturn, 1) := by decide +kernel
theorem dX4_wireOff_47 : decode cX4_wireOff 47 = .ok (.iinc 3 1, 3) := by decide +kernel
theorem dX4_wireOff_50 : decode cX4_wireOff 50 = .ok (.iinc 4 1, 3) := by decide +kernel
theorem dX4_wireOff_53 : decode cX4_wireOff 53 = .ok (.goto (-35), 3) := by decide +kernel
theorem dX4_wireOff_56 : decode cX4_wireOff 56 = .ok (.iconst (-1), 1) := by decide +kernel
theorem dX4_wireOff_57 : decode cX4_wireOff 57 = .ok (.ireturn, 1) := by decide +kernel
set_option maxRecDepth 20000 in
theorem ggX4_isOn_X6_hasBit : GoodIn wsX4_isOn wsX6_hasBit := goodIn_r _ [5] (by decide +kernel) (by decide +kernel)
set_option maxRecDepth 20000 in
theorem gX4_isOn_X6_hasBit_n26 : GoodIn wsX4_isOn (wsX6_hasBit) := ggX4_isOn_X6_hasBit
theorem dX4_isOn_0 : decode cX4_isOn 0 = .ok (.iload_n 1, 1) := by decide +kernel
theorem dX4_isOn_1 : decode cX4_isOn 1 = .ok (.istore_n 3, 1) := by decide +kernel
theorem dX4_isOn_2 : decode cX4_isOn 2 = .ok (.iload_n 3, 1) := by decide +kernel
theorem dX4_isOn_3 : decode cX4_isOn 3 = .ok (.ifCond .lt 33, 3) := by decide +kernel
theorem dX4_isOn_6 : decode cX4_isOn 6 = .ok (.aload_n 0, 1) := by decide +kernel
theorem dX4_isOn_7 : decode cX4_isOn 7 = .ok (.getfield 9, 3) := by decide +kernel
theorem dX4_isOn_10 : decode cX4_isOn 10 = .ok (.iload_n 3, 1) := by decide +kernel
theorem dX4_isOn_11 : decode cX4_isOn 11 = .ok (.iaload, 1) := by decide +kernel
theorem dX4_isOn_12 : decode cX4_isOn 12 = .ok (.iload_n 2, 1) := by decide +kernel
theorem dX4_isOn_13 : decode cX4_isOn 13 = .ok (.invokestatic 26, 3) := by decide +kernel
theorem dX4_isOn_16 : decode cX4_isOn 16 = .ok (.ifCond .eq 14, 3) := by decide +kernel
theorem dX4_isOn_19 : decode cX4_isOn 19 = .ok (.aload_n 0, 1) := by decide +kernel
theorem dX4_isOn_20 : decode cX4_isOn 20 = .ok (.getfield 15, 3) := by decide +kernel
theorem dX4_isOn_23 : decode cX4_isOn 23 = .ok (.iload_n 3, 1) := by decide +kernel
theorem dX4_isOn_24 : decode cX4_isOn 24 = .ok (.iaload, 1) := by decide +kernel
theorem dX4_isOn_25 : decode cX4_isOn 25 = .ok (.iload_n 2, 1) := by decide +kernel
theorem dX4_isOn_26 : decode cX4_isOn 26 = .ok (.invokestatic 26, 3) := by decide +kernel
theorem dX4_isOn_29 : decode cX4_isOn 29 = .ok (.ireturn, 1) := by decide +kernel
theorem dX4_isOn_30 : decode cX4_isOn 30 = .ok (.iinc 3 (-1), 3) := by decide +kernel
theorem dX4_isOn_33 : decode cX4_isOn 33 = .ok (.goto (-31), 3) := by decide +kernel
theorem dX4_isOn_36 : decode cX4_isOn 36 = .ok (.iconst 1, 1) := by decide +kernel
theorem dX4_isOn_37 : decode cX4_isOn 37 = .ok (.ireturn, 1) := by decide +kernel
theorem dX5_init_0 : decode cX5_init 0 = .ok (.aload_n 0, 1) := by decide +kernel
theorem dX5_init_1 : decode cX5_init 1 = .ok (.invokespecial 3, 3) := by decide +kernel
theorem dX5_init_4 : decode cX5_init 4 = .ok (.aload_n 0, 1) := by decide +kernel
theorem dX5_init_5 : decode cX5_init 5 = .ok (.bipush 24, 2) := by decide +kernel
theorem dX5_init_7 : decode cX5_init 7 = .ok (.newarray .int, 2) := by decide +kernel
theorem dX5_init_9 : decode cX5_init 9 = .ok (.putfield 9, 3) := by decide +kernel
theorem dX5_init_12 : decode cX5_init 12 = .ok (.aload_n 0, 1) := by decide +kernel
theorem dX5_init_13 : decode cX5_init 13 = .ok (.bipush 24, 2) := by decide +kernel
theorem dX5_init_15 : decode cX5_init 15 = .ok (.newarray .int, 2) := by decide +kernel
theorem dX5_init_17 : decode cX5_init 17 = .ok (.putfield 15, 3) := by decide +kernel
theorem dX5_init_20 : decode cX5_init 20 = .ok (.aload_n 0, 1) := by decide +kernel
theorem dX5_init_21 : decode cX5_init 21 = .ok (.bipush 24, 2) := by decide +kernel
theorem dX5_init_23 : decode cX5_init 23 = .ok (.newarray .int, 2) := by decide +kernel
theorem dX5_init_25 : decode cX5_init 25 = .ok (.putfield 18, 3) := by decide +kernel
theorem dX5_init_28 : decode cX5_init 28 = .ok (.aload_n 0, 1) := by decide +kernel
theorem dX5_init_29 : decode cX5_init 29 = .ok (.bipush 24, 2) := by decide +kernel
theorem dX5_init_31 : decode cX5_init 31 = .ok (.newarray .long, 2) := by decide +kernel
theorem dX5_init_33 : decode cX5_init 33 = .ok (.putfield 21, 3) := by decide +kernel
theorem dX5_init_36 : decode cX5_init 36 = .ok (.aload_n 0, 1) := by decide +kernel
theorem dX5_init_37 : decode cX5_init 37 = .ok (.bipush 24, 2) := by decide +kernel
theorem dX5_init_39 : decode cX5_init 39 = .ok (.newarray .long, 2) := by decide +kernel
theorem dX5_init_41 : decode cX5_init 41 = .ok (.putfield 25, 3) := by decide +kernel
theorem dX5_init_44 : decode cX5_init 44 = .ok (.aload_n 0, 1) := by decide +kernel
theorem dX5_init_45 : decode cX5_init 45 = .ok (.iconst 0, 1) := by decide +kernel
theorem dX5_init_46 : decode cX5_init 46 = .ok (.putfield 28, 3) := by decide +kernel
theorem dX5_init_49 : decode cX5_init 49 = .ok (.return_, 1) := by decide +kernel
theorem dX5_count_0 : decode cX5_count 0 = .ok (.aload_n 0, 1) := by decide +kernel
theorem dX5_count_1 : decode cX5_count 1 = .ok (.getfield 28, 3) := by decide +kernel
theorem dX5_count_4 : decode cX5_count 4 = .ok (.ireturn, 1) := by decide +kernel
theorem dX5_firstEnd_0 : decode cX5_firstEnd 0 = .ok (.aload_n 0, 1) := by decide +kernel
theorem dX5_firstEnd_1 : decode cX5_firstEnd 1 = .ok (.getfield 9, 3) := by decide +kernel
theorem dX5_firstEnd_4 : decode cX5_firstEnd 4 = .ok (.iload_n 1, 1) := by decide +kernel
theorem dX5_firstEnd_5 : decode cX5_firstEnd 5 = .ok (.iaload, 1) := by decide +kernel
theorem dX5_firstEnd_6 : decode cX5_firstEnd 6 = .ok (.ireturn, 1) := by decide +kernel
theorem dX5_otherEnd_0 : decode cX5_otherEnd 0 = .ok (.aload_n 0, 1) := by decide +kernel
theorem dX5_otherEnd_1 : decode cX5_otherEnd 1 = .ok (.getfield 15, 3) := by decide +kernel
theorem dX5_otherEnd_4 : decode cX5_otherEnd 4 = .ok (.iload_n 1, 1) := by decide +kernel
theorem dX5_otherEnd_5 : decode cX5_otherEnd 5 = .ok (.iaload, 1) := by decide +kernel
theorem dX5_otherEnd_6 : decode cX5_otherEnd 6 = .ok (.ireturn, 1) := by decide +kernel
theorem dX5_colourOf_0 : decode cX5_colourOf 0 = .ok (.aload_n 0, 1) := by decide +kernel
theorem dX5_colourOf_1 : decode cX5_colourOf 1 = .ok (.getfield 18, 3) := by decide +kernel
theorem dX5_colourOf_4 : decode cX5_colourOf 4 = .ok (.iload_n 1, 1) := by decide +kernel
theorem dX5_colourOf_5 : decode cX5_colourOf 5 = .ok (.iaload, 1) := by decide +kernel
theorem dX5_colourOf_6 : decode cX5_colourOf 6 = .ok (.ireturn, 1) := by decide +kernel
theorem dX5_loadOf_0 : decode cX5_loadOf 0 = .ok (.aload_n 0, 1) := by decide +kernel
theorem dX5_loadOf_1 : decode cX5_loadOf 1 = .ok (.getfield 21, 3) := by decide +kernel
theorem dX5_loadOf_4 : decode cX5_loadOf 4 = .ok (.iload_n 1, 1) := by decide +kernel
theorem dX5_loadOf_5 : decode cX5_loadOf 5 = .ok (.laload, 1) := by decide +kernel
theorem dX5_loadOf_6 : decode cX5_loadOf 6 = .ok (.lreturn, 1) := by decide +kernel
theorem dX5_dropOf_0 : decode cX5_dropOf 0 = .ok (.aload_n 0, 1) := by decide +kernel
theorem dX5_dropOf_1 : decode cX5_dropOf 1 = .ok (.getfield 25, 3) := by decide +kernel
theorem dX5_dropOf_4 : decode cX5_dropOf 4 = .ok (.iload_n 1, 1) := by decide +kernel
theorem dX5_dropOf_5 : decode cX5_dropOf 5 = .ok (.laload, 1) := by decide +kernel
theorem dX5_dropOf_6 : decode cX5_dropOf 6 = .ok (.lreturn, 1) := by decide +kernel
theorem dX5_wireAt_0 : decode cX5_wireAt 0 = .ok (.iconst 0, 1) := by decide +kernel
theorem dX5_wireAt_1 : decode cX5_wireAt 1 = .ok (.istore_n 2, 1) := by decide +kernel
theorem dX5_wireAt_2 : decode cX5_wireAt 2 = .ok (.iload_n 2, 1) := by decide +kernel
theorem dX5_wireAt_3 : decode cX5_wireAt 3 = .ok (.aload_n 0, 1) := by decide +kernel
theorem dX5_wireAt_4 : decode cX5_wireAt 4 = .ok (.getfield 28, 3) := by decide +kernel
theorem dX5_wireAt_7 : decode cX5_wireAt 7 = .ok (.if_icmp .ge 31, 3) := by decide +kernel
theorem dX5_wireAt_10 : decode cX5_wireAt 10 = .ok (.aload_n 0, 1) := by decide +kernel
theorem dX5_wireAt_11 : decode cX5_wireAt 11 = .ok (.getfield 9, 3) := by decide +kernel
theorem dX5_wireAt_14 : decode cX5_wireAt 14 = .ok (.iload_n 2, 1) := by decide +kernel
theorem dX5_wireAt_15 : decode cX5_wireAt 15 = .ok (.iaload, 1) := by decide +kernel
theorem dX5_wireAt_16 : decode cX5_wireAt 16 = .ok (.iload_n 1, 1) := by decide +kernel
theorem dX5_wireAt_17 : decode cX5_wireAt 17 = .ok (.if_icmp .eq 13, 3) := by decide +kernel
theorem dX5_wireAt_20 : decode cX5_wireAt 20 = .ok (.aload_n 0, 1) := by decide +kernel
theorem dX5_wireAt_21 : decode cX5_wireAt 21 = .ok (.getfield 15, 3) := by decide +kernel
theorem dX5_wireAt_24 : decode cX5_wireAt 24 = .ok (.iload_n 2, 1) := by decide +kernel
theorem dX5_wireAt_25 : decode cX5_wireAt 25 = .ok (.iaload, 1) := by decide +kernel
theorem dX5_wireAt_26 : decode cX5_wireAt 26 = .ok (.iload_n 1, 1) := by decide +kernel
theorem dX5_wireAt_27 : decode cX5_wireAt 27 = .ok (.if_icmp .ne 5, 3) := by decide +kernel
theorem dX5_wireAt_30 : decode cX5_wireAt 30 = .ok (.iload_n 2, 1) := by decide +kernel
theorem dX5_wireAt_31 : decode cX5_wireAt 31 = .ok (.ireturn, 1) := by decide +kernel
theorem dX5_wireAt_32 : decode cX5_wireAt 32 = .ok (.iinc 2 1, 3) := by decide +kernel
theorem dX5_wireAt_35 : decode cX5_wireAt 35 = .ok (.goto (-33), 3) := by decide +kernel
theorem dX5_wireAt_38 : decode cX5_wireAt 38 = .ok (.iconst (-1), 1) := by decide +kernel
theorem dX5_wireAt_39 : decode cX5_wireAt 39 = .ok (.ireturn, 1) := by decide +kernel
set_option maxRecDepth 20000 in
theorem ggX5_add_X5_wireAt : GoodIn wsX5_add wsX5_wireAt := goodIn_ca (goodIn_r _ [12, 1, 3, 4, 26, 27, 28, 29, 30, 31] (by decide +kernel) (by decide +kernel)) (goodIn_sub (fun _ h => List.mem_cons_of_mem _ (List.mem_append_right _ h)) (by decide +kernel))
set_option maxRecDepth 20000 in
theorem gX5_add_X5_wireAt : GoodIn wsX5_add (wsV RX5 32 RX5 yX5_wireAt wsX5_wireAt) := goodIn_app (goodIn_of _ (by decide +kernel)) ggX5_add_X5_wireAt
set_option maxRecDepth 20000 in
theorem ggX5_add_X6_nodeOf : GoodIn wsX5_add wsX6_nodeOf := goodIn_r _ [15] (by decide +kernel) (by decide +kernel)
set_option maxRecDepth 20000 in
theorem gX5_add_X6_nodeOf_n36 : GoodIn wsX5_add (wsX6_nodeOf) := ggX5_add_X6_nodeOf
set_option maxRecDepth 20000 in
theorem ggX5_add_X5_freeColour : GoodIn wsX5_add wsX5_freeColour := goodIn_ca (goodIn_r _ [19, 1, 2, 20, 21, 22, 11, 23, 3, 4, 13, 14, 15, 24, 25, 26, 27, 28, 29, 30, 31] (by decide +kernel) (by decide +kernel)) (goodIn_sub (fun _ h => List.mem_cons_of_mem _ (List.mem_append_right _ h)) (by decide +kernel))
set_option maxRecDepth 20000 in
theorem gX5_add_X5_freeColour : GoodIn wsX5_add (wsV RX5 39 RX5 yX5_freeColour wsX5_freeColour) := goodIn_app (goodIn_of _ (by decide +kernel)) ggX5_add_X5_freeColour
theorem dX5_add_0 : decode cX5_add 0 = .ok (.aload_n 0, 1) := by decide +kernel
theorem dX5_add_1 : decode cX5_add 1 = .ok (.getfield 28, 3) := by decide +kernel
theorem dX5_add_4 : decode cX5_add 4 = .ok (.bipush 24, 2) := by decide +kernel
theorem dX5_add_6 : decode cX5_add 6 = .ok (.if_icmp .ge 26, 3) := by decide +kernel
theorem dX5_add_9 : decode cX5_add 9 = .ok (.iload_n 1, 1) := by decide +kernel
theorem dX5_add_10 : decode cX5_add 10 = .ok (.iload_n 2, 1) := by decide +kernel
theorem dX5_add_11 : decode cX5_add 11 = .ok (.if_icmp .eq 21, 3) := by decide +kernel
theorem dX5_add_14 : decode cX5_add 14 = .ok (.aload_n 0, 1) := by decide +kernel
theorem dX5_add_15 : decode cX5_add 15 = .ok (.iload_n 1, 1) := by decide +kernel
theorem dX5_add_16 : decode cX5_add 16 = .ok (.invokevirtual 32, 3) := by decide +kernel
theorem dX5_add_19 : decode cX5_add 19 = .ok (.iconst (-1), 1) := by decide +kernel
theorem dX5_add_20 : decode cX5_add 20 = .ok (.if_icmp .ne 12, 3) := by decide +kernel
theorem dX5_add_23 : decode cX5_add 23 = .ok (.aload_n 0, 1) := by decide +kernel
theorem dX5_add_24 : decode cX5_add 24 = .ok (.iload_n 2, 1) := by decide +kernel
theorem dX5_add_25 : decode cX5_add 25 = .ok (.invokevirtual 32, 3) := by decide +kernel
theorem dX5_add_28 : decode cX5_add 28 = .ok (.iconst (-1), 1) := by decide +kernel
theorem dX5_add_29 : decode cX5_add 29 = .ok (.if_icmp .eq 5, 3) := by decide +kernel
theorem dX5_add_32 : decode cX5_add 32 = .ok (.iconst (-1), 1) := by decide +kernel
theorem dX5_add_33 : decode cX5_add 33 = .ok (.ireturn, 1) := by decide +kernel
theorem dX5_add_34 : decode cX5_add 34 = .ok (.aload_n 0, 1) := by decide +kernel
theorem dX5_add_35 : decode cX5_add 35 = .ok (.getfield 18, 3) := by decide +kernel
theorem dX5_add_38 : decode cX5_add 38 = .ok (.aload_n 0, 1) := by decide +kernel
theorem dX5_add_39 : decode cX5_add 39 = .ok (.getfield 28, 3) := by decide +kernel
theorem dX5_add_42 : decode cX5_add 42 = .ok (.aload_n 0, 1) := by decide +kernel
theorem dX5_add_43 : decode cX5_add 43 = .ok (.iload_n 1, 1) := by decide +kernel
theorem dX5_add_44 : decode cX5_add 44 = .ok (.invokestatic 36, 3) := by decide +kernel
theorem dX5_add_47 : decode cX5_add 47 = .ok (.iload_n 2, 1) := by decide +kernel
theorem dX5_add_48 : decode cX5_add 48 = .ok (.invokestatic 36, 3) := by decide +kernel
theorem dX5_add_51 : decode cX5_add 51 = .ok (.invokevirtual 39, 3) := by decide +kernel
theorem dX5_add_54 : decode cX5_add 54 = .ok (.iastore, 1) := by decide +kernel
theorem dX5_add_55 : decode cX5_add 55 = .ok (.aload_n 0, 1) := by decide +kernel
theorem dX5_add_56 : decode cX5_add 56 = .ok (.getfield 9, 3) := by decide +kernel
theorem dX5_add_59 : decode cX5_add 59 = .ok (.aload_n 0, 1) := by decide +kernel
theorem dX5_add_60 : decode cX5_add 60 = .ok (.getfield 28, 3) := by decide +kernel
theorem dX5_add_63 : decode cX5_add 63 = .ok (.iload_n 1, 1) := by decide +kernel
theorem dX5_add_64 : decode cX5_add 64 = .ok (.iastore, 1) := by decide +kernel
theorem dX5_add_65 : decode cX5_add 65 = .ok (.aload_n 0, 1) := by decide +kernel
theorem dX5_add_66 : decode cX5_add 66 = .ok (.getfield 15, 3) := by decide +kernel
theorem dX5_add_69 : decode cX5_add 69 = .ok (.aload_n 0, 1) := by decide +kernel
theorem dX5_add_70 : decode cX5_add 70 = .ok (.getfield 28, 3) := by decide +kernel
theorem dX5_add_73 : decode cX5_add 73 = .ok (.iload_n 2, 1) := by decide +kernel
theorem dX5_add_74 : decode cX5_add 74 = .ok (.iastore, 1) := by decide +kernel
theorem dX5_add_75 : decode cX5_add 75 = .ok (.aload_n 0, 1) := by decide +kernel
theorem dX5_add_76 : decode cX5_add 76 = .ok (.getfield 21, 3) := by decide +kernel
theorem dX5_add_79 : decode cX5_add 79 = .ok (.aload_n 0, 1) := by decide +kernel
theorem dX5_add_80 : decode cX5_add 80 = .ok (.getfield 28, 3) := by decide +kernel
theorem dX5_add_83 : decode cX5_add 83 = .ok (.lconst 0, 1) := by decide +kernel
theorem dX5_add_84 : decode cX5_add 84 = .ok (.lastore, 1) := by decide +kernel
theorem dX5_add_85 : decode cX5_add 85 = .ok (.aload_n 0, 1) := by decide +kernel
theorem dX5_add_86 : decode cX5_add 86 = .ok (.getfield 25, 3) := by decide +kernel
theorem dX5_add_89 : decode cX5_add 89 = .ok (.aload_n 0, 1) := by decide +kernel
theorem dX5_add_90 : decode cX5_add 90 = .ok (.getfield 28, 3) := by decide +kernel
theorem dX5_add_93 : decode cX5_add 93 = .ok (.ldc2_w 43, 3) := by decide +kernel
theorem dX5_add_96 : decode cX5_add 96 = .ok (.lastore, 1) := by decide +kernel
theorem dX5_add_97 : decode cX5_add 97 = .ok (.aload_n 0, 1) := by decide +kernel
theorem dX5_add_98 : decode cX5_add 98 = .ok (.dup, 1) := by decide +kernel
theorem dX5_add_99 : decode cX5_add 99 = .ok (.getfield 28, 3) := by decide +kernel
theorem dX5_add_102 : decode cX5_add 102 = .ok (.iconst 1, 1) := by decide +kernel
theorem dX5_add_103 : decode cX5_add 103 = .ok (.iadd, 1) := by decide +kernel
theorem dX5_add_104 : decode cX5_add 104 = .ok (.putfield 28, 3) := by decide +kernel
theorem dX5_add_107 : decode cX5_add 107 = .ok (.aload_n 0, 1) := by decide +kernel
theorem dX5_add_108 : decode cX5_add 108 = .ok (.getfield 28, 3) := by decide +kernel
theorem dX5_add_111 : decode cX5_add 111 = .ok (.iconst 1, 1) := by decide +kernel
theorem dX5_add_112 : decode cX5_add 112 = .ok (.isub, 1) := by decide +kernel
theorem dX5_add_113 : decode cX5_add 113 = .ok (.ireturn, 1) := by decide +kernel
theorem dX5_tellLoad_0 : decode cX5_tellLoad 0 = .ok (.aload_n 0, 1) := by decide +kernel
theorem dX5_tellLoad_1 : decode cX5_tellLoad 1 = .ok (.getfield 21, 3) := by decide +kernel
theorem dX5_tellLoad_4 : decode cX5_tellLoad 4 = .ok (.iload_n 1, 1) := by decide +kernel
theorem dX5_tellLoad_5 : decode cX5_tellLoad 5 = .ok (.laload, 1) := by decide +kernel
theorem dX5_tellLoad_6 : decode cX5_tellLoad 6 = .ok (.lload_n 2, 1) := by decide +kernel
theorem dX5_tellLoad_7 : decode cX5_tellLoad 7 = .ok (.lcmp, 1) := by decide +kernel
theorem dX5_tellLoad_8 : decode cX5_tellLoad 8 = .ok (.ifCond .ne 15, 3) := by decide +kernel
theorem dX5_tellLoad_11 : decode cX5_tellLoad 11 = .ok (.aload_n 0, 1) := by decide +kernel
theorem dX5_tellLoad_12 : decode cX5_tellLoad 12 = .ok (.getfield 25, 3) := by decide +kernel
theorem dX5_tellLoad_15 : decode cX5_tellLoad 15 = .ok (.iload_n 1, 1) := by decide +kernel
theorem dX5_tellLoad_16 : decode cX5_tellLoad 16 = .ok (.laload, 1) := by decide +kernel
theorem dX5_tellLoad_17 : decode cX5_tellLoad 17 = .ok (.lload 4, 2) := by decide +kernel
theorem dX5_tellLoad_19 : decode cX5_tellLoad 19 = .ok (.lcmp, 1) := by decide +kernel
theorem dX5_tellLoad_20 : decode cX5_tellLoad 20 = .ok (.ifCond .eq 7, 3) := by decide +kernel
theorem dX5_tellLoad_23 : decode cX5_tellLoad 23 = .ok (.iconst 1, 1) := by decide +kernel
theorem dX5_tellLoad_24 : decode cX5_tellLoad 24 = .ok (.goto 4, 3) := by decide +kernel
theorem dX5_tellLoad_27 : decode cX5_tellLoad 27 = .ok (.iconst 0, 1) := by decide +kernel
theorem dX5_tellLoad_28 : decode cX5_tellLoad 28 = .ok (.istore 6, 2) := by decide +kernel
theorem dX5_tellLoad_30 : decode cX5_tellLoad 30 = .ok (.aload_n 0, 1) := by decide +kernel
theorem dX5_tellLoad_31 : decode cX5_tellLoad 31 = .ok (.getfield 21, 3) := by decide +kernel
theorem dX5_tellLoad_34 : decode cX5_tellLoad 34 = .ok (.iload_n 1, 1) := by decide +kernel
theorem dX5_tellLoad_35 : decode cX5_tellLoad 35 = .ok (.lload_n 2, 1) := by decide +kernel
theorem dX5_tellLoad_36 : decode cX5_tellLoad 36 = .ok (.lastore, 1) := by decide +kernel
theorem dX5_tellLoad_37 : decode cX5_tellLoad 37 = .ok (.aload_n 0, 1) := by decide +kernel
theorem dX5_tellLoad_38 : decode cX5_tellLoad 38 = .ok (.getfield 25, 3) := by decide +kernel
theorem dX5_tellLoad_41 : decode cX5_tellLoad 41 = .ok (.iload_n 1, 1) := by decide +kernel
theorem dX5_tellLoad_42 : decode cX5_tellLoad 42 = .ok (.lload 4, 2) := by decide +kernel
theorem dX5_tellLoad_44 : decode cX5_tellLoad 44 = .ok (.lastore, 1) := by decide +kernel
theorem dX5_tellLoad_45 : decode cX5_tellLoad 45 = .ok (.iload 6, 2) := by decide +kernel
theorem dX5_tellLoad_47 : decode cX5_tellLoad 47 = .ok (.ireturn, 1) := by decide +kernel
set_option maxRecDepth 20000 in
theorem ggX5_freeColour_X5_endsAt : GoodIn wsX5_freeColour wsX5_endsAt := goodIn_ca (goodIn_r _ [7, 8, 9, 10, 11, 12, 15, 16, 17, 18, 19, 20] (by decide +kernel) (by decide +kernel)) (goodIn_sub (fun _ h => List.mem_cons_of_mem _ (List.mem_append_right _ h)) (by decide +kernel))
set_option maxRecDepth 20000 in
theorem gX5_freeColour_X5_endsAt : GoodIn wsX5_freeColour (wsV RX5 45 RX5 yX5_endsAt wsX5_endsAt) := goodIn_app (goodIn_of _ (by decide +kernel)) ggX5_freeColour_X5_endsAt
set_option maxRecDepth 20000 in
theorem ggX5_freeColour_X6_hasBit : GoodIn wsX5_freeColour wsX6_hasBit := goodIn_r _ [14] (by decide +kernel) (by decide +kernel)
set_option maxRecDepth 20000 in
theorem gX5_freeColour_X6_hasBit_n49 : GoodIn wsX5_freeColour (wsX6_hasBit) := ggX5_freeColour_X6_hasBit
theorem dX5_freeColour_0 : decode cX5_freeColour 0 = .ok (.iconst 0, 1) := by decide +kernel
theorem dX5_freeColour_1 : decode cX5_freeColour 1 = .ok (.istore_n 3, 1) := by decide +kernel
theorem dX5_freeColour_2 : decode cX5_freeColour 2 = .ok (.iconst 0, 1) := by decide +kernel
theorem dX5_freeColour_3 : decode cX5_freeColour 3 = .ok (.istore 4, 2) := by decide +kernel
theorem dX5_freeColour_5 : decode cX5_freeColour 5 = .ok (.iload 4, 2) := by decide +kernel
theorem dX5_freeColour_7 : decode cX5_freeColour 7 = .ok (.aload_n 0, 1) := by decide +kernel
theorem dX5_freeColour_8 : decode cX5_freeColour 8 = .ok (.getfield 28, 3) := by decide +kernel
theorem dX5_freeColour_11 : decode cX5_freeColour 11 = .ok (.if_icmp .ge 41, 3) := by decide +kernel
theorem dX5_freeColour_14 : decode cX5_freeColour 14 = .ok (.aload_n 0, 1) := by decide +kernel
theorem dX5_freeColour_15 : decode cX5_freeColour 15 = .ok (.iload 4, 2) := by decide +kernel
theorem dX5_freeColour_17 : decode cX5_freeColour 17 = .ok (.iload_n 1, 1) := by decide +kernel
theorem dX5_freeColour_18 : decode cX5_freeColour 18 = .ok (.invokevirtual 45, 3) := by decide +kernel
theorem dX5_freeColour_21 : decode cX5_freeColour 21 = .ok (.ifCond .ne 13, 3) := by decide +kernel
theorem dX5_freeColour_24 : decode cX5_freeColour 24 = .ok (.aload_n 0, 1) := by decide +kernel
theorem dX5_freeColour_25 : decode cX5_freeColour 25 = .ok (.iload 4, 2) := by decide +kernel
theorem dX5_freeColour_27 : decode cX5_freeColour 27 = .ok (.iload_n 2, 1) := by decide +kernel
theorem dX5_freeColour_28 : decode cX5_freeColour 28 = .ok (.invokevirtual 45, 3) := by decide +kernel
theorem dX5_freeColour_31 : decode cX5_freeColour 31 = .ok (.ifCond .eq 15, 3) := by decide +kernel
theorem dX5_freeColour_34 : decode cX5_freeColour 34 = .ok (.iload_n 3, 1) := by decide +kernel
theorem dX5_freeColour_35 : decode cX5_freeColour 35 = .ok (.iconst 1, 1) := by decide +kernel
theorem dX5_freeColour_36 : decode cX5_freeColour 36 = .ok (.aload_n 0, 1) := by decide +kernel
theorem dX5_freeColour_37 : decode cX5_freeColour 37 = .ok (.getfield 18, 3) := by decide +kernel
theorem dX5_freeColour_40 : decode cX5_freeColour 40 = .ok (.iload 4, 2) := by decide +kernel
theorem dX5_freeColour_42 : decode cX5_freeColour 42 = .ok (.iaload, 1) := by decide +kernel
theorem dX5_freeColour_43 : decode cX5_freeColour 43 = .ok (.ishl, 1) := by decide +kernel
theorem dX5_freeColour_44 : decode cX5_freeColour 44 = .ok (.ior, 1) := by decide +kernel
theorem dX5_freeColour_45 : decode cX5_freeColour 45 = .ok (.istore_n 3, 1) := by decide +kernel
theorem dX5_freeColour_46 : decode cX5_freeColour 46 = .ok (.iinc 4 1, 3) := by decide +kernel
theorem dX5_freeColour_49 : decode cX5_freeColour 49 = .ok (.goto (-44), 3) := by decide +kernel
theorem dX5_freeColour_52 : decode cX5_freeColour 52 = .ok (.iconst 0, 1) := by decide +kernel
theorem dX5_freeColour_53 : decode cX5_freeColour 53 = .ok (.istore 4, 2) := by decide +kernel
theorem dX5_freeColour_55 : decode cX5_freeColour 55 = .ok (.iload 4, 2) := by decide +kernel
theorem dX5_freeColour_57 : decode cX5_freeColour 57 = .ok (.bipush 24, 2) := by decide +kernel
theorem dX5_freeColour_59 : decode cX5_freeColour 59 = .ok (.if_icmp .ge 18, 3) := by decide +kernel
theorem dX5_freeColour_62 : decode cX5_freeColour 62 = .ok (.iload_n 3, 1) := by decide +kernel
theorem dX5_freeColour_63 : decode cX5_freeColour 63 = .ok (.iload 4, 2) := by decide +kernel
theorem dX5_freeColour_65 : decode cX5_freeColour 65 = .ok (.invokestatic 49, 3) := by decide +kernel
theorem dX5_freeColour_68 : decode cX5_freeColour 68 = .ok (.ifCond .eq 9, 3) := by decide +kernel
theorem dX5_freeColour_71 : decode cX5_freeColour 71 = .ok (.iinc 4 1, 3) := by decide +kernel
theorem dX5_freeColour_74 : decode cX5_freeColour 74 = .ok (.goto (-19), 3) := by decide +kernel
theorem dX5_freeColour_77 : decode cX5_freeColour 77 = .ok (.iload 4, 2) := by decide +kernel
theorem dX5_freeColour_79 : decode cX5_freeColour 79 = .ok (.ireturn, 1) := by decide +kernel
set_option maxRecDepth 20000 in
theorem ggX5_endsAt_X6_nodeOf : GoodIn wsX5_endsAt wsX6_nodeOf := goodIn_r _ [5] (by decide +kernel) (by decide +kernel)
set_option maxRecDepth 20000 in
theorem gX5_endsAt_X6_nodeOf_n36 : GoodIn wsX5_endsAt (wsX6_nodeOf) := ggX5_endsAt_X6_nodeOf
theorem dX5_endsAt_0 : decode cX5_endsAt 0 = .ok (.aload_n 0, 1) := by decide +kernel
theorem dX5_endsAt_1 : decode cX5_endsAt 1 = .ok (.getfield 9, 3) := by decide +kernel
theorem dX5_endsAt_4 : decode cX5_endsAt 4 = .ok (.iload_n 1, 1) := by decide +kernel
theorem dX5_endsAt_5 : decode cX5_endsAt 5 = .ok (.iaload, 1) := by decide +kernel
theorem dX5_endsAt_6 : decode cX5_endsAt 6 = .ok (.invokestatic 36, 3) := by decide +kernel
theorem dX5_endsAt_9 : decode cX5_endsAt 9 = .ok (.iload_n 2, 1) := by decide +kernel
theorem dX5_endsAt_10 : decode cX5_endsAt 10 = .ok (.if_icmp .eq 16, 3) := by decide +kernel
theorem dX5_endsAt_13 : decode cX5_endsAt 13 = .ok (.aload_n 0, 1) := by decide +kernel
theorem dX5_endsAt_14 : decode cX5_endsAt 14 = .ok (.getfield 15, 3) := by decide +kernel
theorem dX5_endsAt_17 : decode cX5_endsAt 17 = .ok (.iload_n 1, 1) := by decide +kernel
theorem dX5_endsAt_18 : decode cX5_endsAt 18 = .ok (.iaload, 1) := by decide +kernel
theorem dX5_endsAt_19 : decode cX5_endsAt 19 = .ok (.invokestatic 36, 3) := by decide +kernel
theorem dX5_endsAt_22 : decode cX5_endsAt 22 = .ok (.iload_n 2, 1) := by decide +kernel
theorem dX5_endsAt_23 : decode cX5_endsAt 23 = .ok (.if_icmp .ne 7, 3) := by decide +kernel
theorem dX5_endsAt_26 : decode cX5_endsAt 26 = .ok (.iconst 1, 1) := by decide +kernel
theorem dX5_endsAt_27 : decode cX5_endsAt 27 = .ok (.goto 4, 3) := by decide +kernel
theorem dX5_endsAt_30 : decode cX5_endsAt 30 = .ok (.iconst 0, 1) := by decide +kernel
theorem dX5_endsAt_31 : decode cX5_endsAt 31 = .ok (.ireturn, 1) := by decide +kernel
set_option maxRecDepth 20000 in
theorem ggX6_init_X3_init : GoodIn wsX6_init wsX3_init := goodIn_r _ [35, 36, 2, 3, 37, 38, 39, 40, 41, 42, 43, 44, 45, 110, 111, 112, 113, 114, 115, 116] (by decide +kernel) (by decide +kernel)
set_option maxRecDepth 20000 in
theorem gX6_init_X3_init_n9 : GoodIn wsX6_init (wsX3_init) := ggX6_init_X3_init
set_option maxRecDepth 20000 in
theorem ggX6_init_X5_init : GoodIn wsX6_init wsX5_init := goodIn_r _ [47, 48, 2, 3, 37, 49, 50, 51, 42, 52, 53, 54, 126, 127, 128, 129, 130, 131] (by decide +kernel) (by decide +kernel)
set_option maxRecDepth 20000 in
theorem gX6_init_X5_init_n18 : GoodIn wsX6_init (wsX5_init) := ggX6_init_X5_init
set_option maxRecDepth 20000 in
theorem ggX6_init_X2_init : GoodIn wsX6_init wsX2_init := goodIn_r _ [56, 57, 2, 3, 42, 58, 59, 60, 132, 133, 134] (by decide +kernel) (by decide +kernel)
set_option maxRecDepth 20000 in
theorem gX6_init_X2_init_n25 : GoodIn wsX6_init (wsX2_init) := ggX6_init_X2_init
set_option maxRecDepth 20000 in
theorem ggX6_init_X0_init : GoodIn wsX6_init wsX0_init := goodIn_r _ [63, 64, 2, 3, 37, 65, 66, 42, 67, 68, 69, 70, 71, 72, 73, 74, 75, 76, 135, 136, 137, 138, 139, 140, 141, 142] (by decide +kernel) (by decide +kernel)
set_option maxRecDepth 20000 in
theorem gX6_init_X0_init : GoodIn wsX6_init (wsX0_init) := ggX6_init_X0_init
set_option maxRecDepth 20000 in
theorem ggX6_init_X1_init : GoodIn wsX6_init wsX1_init := goodIn_ca (goodIn_r _ [79, 80, 2, 3, 37, 81, 82, 83, 143, 144, 145] (by decide +kernel) (by decide +kernel)) (goodIn_sub (fun _ h => List.mem_cons_of_mem _ (List.mem_append_right _ h)) (by decide +kernel))
set_option maxRecDepth 20000 in
theorem gX6_init_X1_init : GoodIn wsX6_init (wsX1_init) := ggX6_init_X1_init
set_option maxRecDepth 20000 in
theorem ggX6_init_X4_init : GoodIn wsX6_init wsX4_init := goodIn_r _ [85, 86, 2, 3, 37, 87, 88, 89, 146, 147, 148] (by decide +kernel) (by decide +kernel)
set_option maxRecDepth 20000 in
theorem gX6_init_X4_init_n46 : GoodIn wsX6_init (wsX4_init) := ggX6_init_X4_init
set_option maxRecDepth 20000 in
theorem ggX6_init_J4_init_da8c8 : GoodIn wsX6_init wsJ4_init_da8c8 := goodIn_r _ [92, 93, 94, 95, 96, 97, 2, 3, 98, 99, 100, 101, 102, 103, 104, 105, 106, 107, 108, 109, 149, 150, 151, 152] (by decide +kernel) (by decide +kernel)
set_option maxRecDepth 20000 in
theorem gX6_init_J4_init_da8c8 : GoodIn wsX6_init (wsJ4_init_da8c8) := ggX6_init_J4_init_da8c8
theorem dX6_init_0 : decode cX6_init 0 = .ok (.aload_n 0, 1) := by decide +kernel
theorem dX6_init_1 : decode cX6_init 1 = .ok (.invokespecial 1, 3) := by decide +kernel
theorem dX6_init_4 : decode cX6_init 4 = .ok (.aload_n 0, 1) := by decide +kernel
theorem dX6_init_5 : decode cX6_init 5 = .ok (.new 7, 3) := by decide +kernel
theorem dX6_init_8 : decode cX6_init 8 = .ok (.dup, 1) := by decide +kernel
theorem dX6_init_9 : decode cX6_init 9 = .ok (.invokespecial 9, 3) := by decide +kernel
theorem dX6_init_12 : decode cX6_init 12 = .ok (.putfield 10, 3) := by decide +kernel
theorem dX6_init_15 : decode cX6_init 15 = .ok (.aload_n 0, 1) := by decide +kernel
theorem dX6_init_16 : decode cX6_init 16 = .ok (.new 16, 3) := by decide +kernel
theorem dX6_init_19 : decode cX6_init 19 = .ok (.dup, 1) := by decide +kernel
theorem dX6_init_20 : decode cX6_init 20 = .ok (.invokespecial 18, 3) := by decide +kernel
theorem dX6_init_23 : decode cX6_init 23 = .ok (.putfield 19, 3) := by decide +kernel
theorem dX6_init_26 : decode cX6_init 26 = .ok (.aload_n 0, 1) := by decide +kernel
theorem dX6_init_27 : decode cX6_init 27 = .ok (.new 23, 3) := by decide +kernel
theorem dX6_init_30 : decode cX6_init 30 = .ok (.dup, 1) := by decide +kernel
theorem dX6_init_31 : decode cX6_init 31 = .ok (.invokespecial 25, 3) := by decide +kernel
theorem dX6_init_34 : decode cX6_init 34 = .ok (.putfield 26, 3) := by decide +kernel
theorem dX6_init_37 : decode cX6_init 37 = .ok (.aload_n 0, 1) := by decide +kernel
theorem dX6_init_38 : decode cX6_init 38 = .ok (.new 30, 3) := by decide +kernel
theorem dX6_init_41 : decode cX6_init 41 = .ok (.dup, 1) := by decide +kernel
theorem dX6_init_42 : decode cX6_init 42 = .ok (.invokespecial 32, 3) := by decide +kernel
theorem dX6_init_45 : decode cX6_init 45 = .ok (.putfield 33, 3) := by decide +kernel
theorem dX6_init_48 : decode cX6_init 48 = .ok (.aload_n 0, 1) := by decide +kernel
theorem dX6_init_49 : decode cX6_init 49 = .ok (.new 37, 3) := by decide +kernel
theorem dX6_init_52 : decode cX6_init 52 = .ok (.dup, 1) := by decide +kernel
theorem dX6_init_53 : decode cX6_init 53 = .ok (.invokespecial 39, 3) := by decide +kernel
theorem dX6_init_56 : decode cX6_init 56 = .ok (.putfield 40, 3) := by decide +kernel
theorem dX6_init_59 : decode cX6_init 59 = .ok (.aload_n 0, 1) := by decide +kernel
theorem dX6_init_60 : decode cX6_init 60 = .ok (.new 44, 3) := by decide +kernel
theorem dX6_init_63 : decode cX6_init 63 = .ok (.dup, 1) := by decide +kernel
theorem dX6_init_64 : decode cX6_init 64 = .ok (.invokespecial 46, 3) := by decide +kernel
theorem dX6_init_67 : decode cX6_init 67 = .ok (.putfield 47, 3) := by decide +kernel
theorem dX6_init_70 : decode cX6_init 70 = .ok (.aload_n 0, 1) := by decide +kernel
theorem dX6_init_71 : decode cX6_init 71 = .ok (.new 51, 3) := by decide +kernel
theorem dX6_init_74 : decode cX6_init 74 = .ok (.dup, 1) := by decide +kernel
theorem dX6_init_75 : decode cX6_init 75 = .ok (.invokespecial 53, 3) := by decide +kernel
theorem dX6_init_78 : decode cX6_init 78 = .ok (.putfield 54, 3) := by decide +kernel
theorem dX6_init_81 : decode cX6_init 81 = .ok (.aload_n 0, 1) := by decide +kernel
theorem dX6_init_82 : decode cX6_init 82 = .ok (.lconst 0, 1) := by decide +kernel
theorem dX6_init_83 : decode cX6_init 83 = .ok (.putfield 58, 3) := by decide +kernel
theorem dX6_init_86 : decode cX6_init 86 = .ok (.aload_n 0, 1) := by decide +kernel
theorem dX6_init_87 : decode cX6_init 87 = .ok (.lconst 1, 1) := by decide +kernel
theorem dX6_init_88 : decode cX6_init 88 = .ok (.putfield 62, 3) := by decide +kernel
theorem dX6_init_91 : decode cX6_init 91 = .ok (.return_, 1) := by decide +kernel
set_option maxRecDepth 20000 in
theorem ggX6_connector_X6_checkNumber : GoodIn wsX6_connector wsX6_checkNumber := goodIn_ca (goodIn_r _ [6, 7, 8] (by decide +kernel) (by decide +kernel)) (goodIn_sub (fun _ h => List.mem_cons_of_mem _ (List.mem_append_left _ (List.mem_append_right _ h))) (by decide +kernel))
set_option maxRecDepth 20000 in
theorem gX6_connector_X6_checkNumber : GoodIn wsX6_connector (va_wsS RX6 67 yX6_checkNumber wsX6_checkNumber) := goodIn_app (goodIn_of _ (by decide +kernel)) ggX6_connector_X6_checkNumber
set_option maxRecDepth 20000 in
theorem ggX6_connector_X3_addNode : GoodIn wsX6_connector wsX3_addNode := goodIn_ca (goodIn_r _ [13, 14, 15, 16, 17, 18, 19, 12, 20, 21, 31, 32, 33, 34, 35, 36, 37] (by decide +kernel) (by decide +kernel)) (goodIn_sub (fun _ h => List.mem_cons_of_mem _ (List.mem_append_right _ h)) (by decide +kernel))
set_option maxRecDepth 20000 in
theorem gX6_connector_X3_addNode : GoodIn wsX6_connector (wsV RX6 71 RX3 yX3_addNode wsX3_addNode) := goodIn_app (goodIn_of _ (by decide +kernel)) ggX6_connector_X3_addNode
theorem dX6_connector_0 : decode cX6_connector 0 = .ok (.iload_n 1, 1) := by decide +kernel
theorem dX6_connector_1 : decode cX6_connector 1 = .ok (.i2l, 1) := by decide +kernel
theorem dX6_connector_2 : decode cX6_connector 2 = .ok (.lconst 1, 1) := by decide +kernel
theorem dX6_connector_3 : decode cX6_connector 3 = .ok (.ldc2_w 65, 3) := by decide +kernel
theorem dX6_connector_6 : decode cX6_connector 6 = .ok (.invokestatic 67, 3) := by decide +kernel
theorem dX6_connector_9 : decode cX6_connector 9 = .ok (.aload_n 0, 1) := by decide +kernel
theorem dX6_connector_10 : decode cX6_connector 10 = .ok (.getfield 10, 3) := by decide +kernel
theorem dX6_connector_13 : decode cX6_connector 13 = .ok (.iload_n 1, 1) := by decide +kernel
theorem dX6_connector_14 : decode cX6_connector 14 = .ok (.invokevirtual 71, 3) := by decide +kernel
theorem dX6_connector_17 : decode cX6_connector 17 = .ok (.ireturn, 1) := by decide +kernel
set_option maxRecDepth 20000 in
theorem ggX6_node_X3_addNode : GoodIn wsX6_node wsX3_addNode := goodIn_ca (goodIn_r _ [6, 7, 8, 9, 10, 11, 12, 5, 13, 14, 24, 25, 26, 27, 28, 29, 30] (by decide +kernel) (by decide +kernel)) (goodIn_sub (fun _ h => List.mem_cons_of_mem _ (List.mem_append_right _ h)) (by decide +kernel))
set_option maxRecDepth 20000 in
theorem gX6_node_X3_addNode : GoodIn wsX6_node (wsV RX6 71 RX3 yX3_addNode wsX3_addNode) := goodIn_app (goodIn_of _ (by decide +kernel)) ggX6_node_X3_addNode
theorem dX6_node_0 : decode cX6_node 0 = .ok (.aload_n 0, 1) := by decide +kernel
theorem dX6_node_1 : decode cX6_node 1 = .ok (.getfield 10, 3) := by decide +kernel
theorem dX6_node_4 : decode cX6_node 4 = .ok (.iconst 0, 1) := by decide +kernel
theorem dX6_node_5 : decode cX6_node 5 = .ok (.invokevirtual 71, 3) := by decide +kernel
theorem dX6_node_8 : decode cX6_node 8 = .ok (.ireturn, 1) := by decide +kernel
set_option maxRecDepth 20000 in
theorem ggX6_bundle_X3_nodeCount : GoodIn wsX6_bundle wsX3_nodeCount := goodIn_r _ [7, 8, 57, 58, 59, 60, 61, 62, 63] (by decide +kernel) (by decide +kernel)
set_option maxRecDepth 20000 in
theorem gX6_bundle_X3_nodeCount : GoodIn wsX6_bundle (wsV RX6 75 RX3 yX3_nodeCount wsX3_nodeCount) := goodIn_app (goodIn_of _ (by decide +kernel)) ggX6_bundle_X3_nodeCount
set_option maxRecDepth 20000 in
theorem ggX6_bundle_X6_checkIndex : GoodIn wsX6_bundle wsX6_checkIndex := goodIn_ca (goodIn_r _ [12, 13, 14] (by decide +kernel) (by decide +kernel)) (goodIn_sub (fun _ h => List.mem_cons_of_mem _ (List.mem_append_left _ (List.mem_append_left _ (List.mem_append_right _ h)))) (by decide +kernel))
set_option maxRecDepth 20000 in
theorem gX6_bundle_X6_checkIndex : GoodIn wsX6_bundle (va_wsS RX6 79 yX6_checkIndex wsX6_checkIndex) := goodIn_app (goodIn_of _ (by decide +kernel)) ggX6_bundle_X6_checkIndex
set_option maxRecDepth 20000 in
theorem ggX6_bundle_X6_checkNumber : GoodIn wsX6_bundle wsX6_checkNumber := goodIn_ca (goodIn_r _ [17, 18, 19] (by decide +kernel) (by decide +kernel)) (goodIn_sub (fun _ h => List.mem_cons_of_mem _ (List.mem_append_left _ (List.mem_append_right _ h))) (by decide +kernel))
set_option maxRecDepth 20000 in
theorem gX6_bundle_X6_checkNumber : GoodIn wsX6_bundle (va_wsS RX6 67 yX6_checkNumber wsX6_checkNumber) := goodIn_app (goodIn_of _ (by decide +kernel)) ggX6_bundle_X6_checkNumber
set_option maxRecDepth 20000 in
theorem ggX6_bundle_X3_addBundle : GoodIn wsX6_bundle wsX3_addBundle := goodIn_ca (goodIn_r _ [23, 24, 25, 26, 27, 28, 29, 30, 31, 6, 32, 33, 34, 35, 36, 37, 8, 38, 39, 40, 41, 42, 11, 43, 44, 45, 46, 47, 57, 58, 59, 60, 61, 62, 63] (by decide +kernel) (by decide +kernel)) (goodIn_sub (fun _ h => List.mem_cons_of_mem _ (List.mem_append_right _ h)) (by decide +kernel))
set_option maxRecDepth 20000 in
theorem gX6_bundle_X3_addBundle : GoodIn wsX6_bundle (wsV RX6 85 RX3 yX3_addBundle wsX3_addBundle) := goodIn_app (goodIn_of _ (by decide +kernel)) ggX6_bundle_X3_addBundle
theorem dX6_bundle_0 : decode cX6_bundle 0 = .ok (.iload_n 1, 1) := by decide +kernel
theorem dX6_bundle_1 : decode cX6_bundle 1 = .ok (.aload_n 0, 1) := by decide +kernel
theorem dX6_bundle_2 : decode cX6_bundle 2 = .ok (.getfield 10, 3) := by decide +kernel
theorem dX6_bundle_5 : decode cX6_bundle 5 = .ok (.invokevirtual 75, 3) := by decide +kernel
theorem dX6_bundle_8 : decode cX6_bundle 8 = .ok (.invokestatic 79, 3) := by decide +kernel
theorem dX6_bundle_11 : decode cX6_bundle 11 = .ok (.iload_n 2, 1) := by decide +kernel
theorem dX6_bundle_12 : decode cX6_bundle 12 = .ok (.aload_n 0, 1) := by decide +kernel
theorem dX6_bundle_13 : decode cX6_bundle 13 = .ok (.getfield 10, 3) := by decide +kernel
theorem dX6_bundle_16 : decode cX6_bundle 16 = .ok (.invokevirtual 75, 3) := by decide +kernel
theorem dX6_bundle_19 : decode cX6_bundle 19 = .ok (.invokestatic 79, 3) := by decide +kernel
theorem dX6_bundle_22 : decode cX6_bundle 22 = .ok (.lload_n 3, 1) := by decide +kernel
theorem dX6_bundle_23 : decode cX6_bundle 23 = .ok (.lconst 1, 1) := by decide +kernel
theorem dX6_bundle_24 : decode cX6_bundle 24 = .ok (.ldc2_w 83, 3) := by decide +kernel
theorem dX6_bundle_27 : decode cX6_bundle 27 = .ok (.invokestatic 67, 3) := by decide +kernel
theorem dX6_bundle_30 : decode cX6_bundle 30 = .ok (.aload_n 0, 1) := by decide +kernel
theorem dX6_bundle_31 : decode cX6_bundle 31 = .ok (.getfield 10, 3) := by decide +kernel
theorem dX6_bundle_34 : decode cX6_bundle 34 = .ok (.iload_n 1, 1) := by decide +kernel
theorem dX6_bundle_35 : decode cX6_bundle 35 = .ok (.iload_n 2, 1) := by decide +kernel
theorem dX6_bundle_36 : decode cX6_bundle 36 = .ok (.lload_n 3, 1) := by decide +kernel
theorem dX6_bundle_37 : decode cX6_bundle 37 = .ok (.invokevirtual 85, 3) := by decide +kernel
theorem dX6_bundle_40 : decode cX6_bundle 40 = .ok (.ireturn, 1) := by decide +kernel
set_option maxRecDepth 20000 in
theorem ggX6_wire_X6_checkCavity : GoodIn wsX6_wire wsX6_checkCavity := goodIn_ca (goodIn_ca (goodIn_r _ [6, 7, 8, 9, 10, 11, 12, 13, 14, 15, 5, 16, 17, 18, 19, 20, 21, 22, 23, 55, 56, 57, 58, 59, 60, 61, 62, 63, 64, 65, 66, 67, 68, 69, 70] (by decide +kernel) (by decide +kernel)) (goodIn_sub (fun _ h => List.mem_cons_of_mem _ (List.mem_append_left _ (List.mem_append_right _ h))) (by decide +kernel))) (goodIn_sub (fun _ h => List.mem_cons_of_mem _ (List.mem_append_right _ h)) (by decide +kernel))
set_option maxRecDepth 20000 in
theorem gX6_wire_X6_checkCavity : GoodIn wsX6_wire (wsV RX6 89 RX6 yX6_checkCavity wsX6_checkCavity) := goodIn_app (goodIn_of _ (by decide +kernel)) ggX6_wire_X6_checkCavity
set_option maxRecDepth 20000 in
theorem ggX6_wire_X6_endOf : GoodIn wsX6_wire wsX6_endOf := goodIn_r _ [26] (by decide +kernel) (by decide +kernel)
set_option maxRecDepth 20000 in
theorem gX6_wire_X6_endOf : GoodIn wsX6_wire (va_wsS RX6 92 yX6_endOf wsX6_endOf) := goodIn_app (goodIn_of _ (by decide +kernel)) ggX6_wire_X6_endOf
set_option maxRecDepth 20000 in
theorem ggX6_wire_X5_add : GoodIn wsX6_wire wsX5_add := goodIn_ca (goodIn_r _ [31, 32, 33, 34, 35, 36, 37, 38, 39, 40, 41, 30, 42, 43, 5, 44, 45, 46, 47, 48, 49, 50, 51, 52, 53, 54, 71, 72, 73, 74, 75, 76] (by decide +kernel) (by decide +kernel)) (goodIn_sub (fun _ h => List.mem_cons_of_mem _ (List.mem_append_right _ h)) (by decide +kernel))
set_option maxRecDepth 20000 in
theorem gX6_wire_X5_add : GoodIn wsX6_wire (wsV RX6 96 RX5 yX5_add wsX5_add) := goodIn_app (goodIn_of _ (by decide +kernel)) ggX6_wire_X5_add
theorem dX6_wire_0 : decode cX6_wire 0 = .ok (.aload_n 0, 1) := by decide +kernel
theorem dX6_wire_1 : decode cX6_wire 1 = .ok (.iload_n 1, 1) := by decide +kernel
theorem dX6_wire_2 : decode cX6_wire 2 = .ok (.iload_n 2, 1) := by decide +kernel
theorem dX6_wire_3 : decode cX6_wire 3 = .ok (.invokevirtual 89, 3) := by decide +kernel
theorem dX6_wire_6 : decode cX6_wire 6 = .ok (.aload_n 0, 1) := by decide +kernel
theorem dX6_wire_7 : decode cX6_wire 7 = .ok (.iload_n 3, 1) := by decide +kernel
theorem dX6_wire_8 : decode cX6_wire 8 = .ok (.iload 4, 2) := by decide +kernel
theorem dX6_wire_10 : decode cX6_wire 10 = .ok (.invokevirtual 89, 3) := by decide +kernel
theorem dX6_wire_13 : decode cX6_wire 13 = .ok (.aload_n 0, 1) := by decide +kernel
theorem dX6_wire_14 : decode cX6_wire 14 = .ok (.getfield 19, 3) := by decide +kernel
theorem dX6_wire_17 : decode cX6_wire 17 = .ok (.iload_n 1, 1) := by decide +kernel
theorem dX6_wire_18 : decode cX6_wire 18 = .ok (.iload_n 2, 1) := by decide +kernel
theorem dX6_wire_19 : decode cX6_wire 19 = .ok (.invokestatic 92, 3) := by decide +kernel
theorem dX6_wire_22 : decode cX6_wire 22 = .ok (.iload_n 3, 1) := by decide +kernel
theorem dX6_wire_23 : decode cX6_wire 23 = .ok (.iload 4, 2) := by decide +kernel
theorem dX6_wire_25 : decode cX6_wire 25 = .ok (.invokestatic 92, 3) := by decide +kernel
theorem dX6_wire_28 : decode cX6_wire 28 = .ok (.invokevirtual 96, 3) := by decide +kernel
theorem dX6_wire_31 : decode cX6_wire 31 = .ok (.ireturn, 1) := by decide +kernel
set_option maxRecDepth 20000 in
theorem ggX6_load_X5_count : GoodIn wsX6_load wsX5_count := goodIn_r _ [7, 8, 35, 36, 37, 38, 39, 40] (by decide +kernel) (by decide +kernel)
set_option maxRecDepth 20000 in
theorem gX6_load_X5_count : GoodIn wsX6_load (wsV RX6 99 RX5 yX5_count wsX5_count) := goodIn_app (goodIn_of _ (by decide +kernel)) ggX6_load_X5_count
set_option maxRecDepth 20000 in
theorem ggX6_load_X6_checkIndex : GoodIn wsX6_load wsX6_checkIndex := goodIn_ca (goodIn_r _ [12, 13, 14] (by decide +kernel) (by decide +kernel)) (goodIn_sub (fun _ h => List.mem_cons_of_mem _ (List.mem_append_left _ (List.mem_append_left _ (List.mem_append_right _ h)))) (by decide +kernel))
set_option maxRecDepth 20000 in
theorem gX6_load_X6_checkIndex : GoodIn wsX6_load (va_wsS RX6 79 yX6_checkIndex wsX6_checkIndex) := goodIn_app (goodIn_of _ (by decide +kernel)) ggX6_load_X6_checkIndex
set_option maxRecDepth 20000 in
theorem ggX6_load_X6_checkNumber : GoodIn wsX6_load wsX6_checkNumber := goodIn_ca (goodIn_r _ [17, 18, 19] (by decide +kernel) (by decide +kernel)) (goodIn_sub (fun _ h => List.mem_cons_of_mem _ (List.mem_append_left _ (List.mem_append_right _ h))) (by decide +kernel))
set_option maxRecDepth 20000 in
theorem gX6_load_X6_checkNumber : GoodIn wsX6_load (va_wsS RX6 67 yX6_checkNumber wsX6_checkNumber) := goodIn_app (goodIn_of _ (by decide +kernel)) ggX6_load_X6_checkNumber
set_option maxRecDepth 20000 in
theorem ggX6_load_X5_tellLoad : GoodIn wsX6_load wsX5_tellLoad := goodIn_ca (goodIn_r _ [23, 24, 25, 35, 36, 37, 38, 39, 40] (by decide +kernel) (by decide +kernel)) (goodIn_sub (fun _ h => List.mem_cons_of_mem _ (List.mem_append_right _ h)) (by decide +kernel))
set_option maxRecDepth 20000 in
theorem gX6_load_X5_tellLoad : GoodIn wsX6_load (wsV RX6 104 RX5 yX5_tellLoad wsX5_tellLoad) := goodIn_app (goodIn_of _ (by decide +kernel)) ggX6_load_X5_tellLoad
theorem dX6_load_0 : decode cX6_load 0 = .ok (.iload_n 1, 1) := by decide +kernel
theorem dX6_load_1 : decode cX6_load 1 = .ok (.aload_n 0, 1) := by decide +kernel
theorem dX6_load_2 : decode cX6_load 2 = .ok (.getfield 19, 3) := by decide +kernel
theorem dX6_load_5 : decode cX6_load 5 = .ok (.invokevirtual 99, 3) := by decide +kernel
theorem dX6_load_8 : decode cX6_load 8 = .ok (.invokestatic 79, 3) := by decide +kernel
theorem dX6_load_11 : decode cX6_load 11 = .ok (.lload_n 2, 1) := by decide +kernel
theorem dX6_load_12 : decode cX6_load 12 = .ok (.lconst 0, 1) := by decide +kernel
theorem dX6_load_13 : decode cX6_load 13 = .ok (.ldc2_w 102, 3) := by decide +kernel
theorem dX6_load_16 : decode cX6_load 16 = .ok (.invokestatic 67, 3) := by decide +kernel
theorem dX6_load_19 : decode cX6_load 19 = .ok (.lload 4, 2) := by decide +kernel
theorem dX6_load_21 : decode cX6_load 21 = .ok (.lconst 0, 1) := by decide +kernel
theorem dX6_load_22 : decode cX6_load 22 = .ok (.ldc2_w 102, 3) := by decide +kernel
theorem dX6_load_25 : decode cX6_load 25 = .ok (.invokestatic 67, 3) := by decide +kernel
theorem dX6_load_28 : decode cX6_load 28 = .ok (.aload_n 0, 1) := by decide +kernel
theorem dX6_load_29 : decode cX6_load 29 = .ok (.getfield 19, 3) := by decide +kernel
theorem dX6_load_32 : decode cX6_load 32 = .ok (.iload_n 1, 1) := by decide +kernel
theorem dX6_load_33 : decode cX6_load 33 = .ok (.lload_n 2, 1) := by decide +kernel
theorem dX6_load_34 : decode cX6_load 34 = .ok (.lload 4, 2) := by decide +kernel
theorem dX6_load_36 : decode cX6_load 36 = .ok (.invokevirtual 104, 3) := by decide +kernel
theorem dX6_load_39 : decode cX6_load 39 = .ok (.ireturn, 1) := by decide +kernel
set_option maxRecDepth 20000 in
theorem ggX6_gauge_X5_count : GoodIn wsX6_gauge wsX5_count := goodIn_r _ [8, 9, 75, 76, 77, 78, 79, 80] (by decide +kernel) (by decide +kernel)
set_option maxRecDepth 20000 in
theorem gX6_gauge_X5_count : GoodIn wsX6_gauge (wsV RX6 99 RX5 yX5_count wsX5_count) := goodIn_app (goodIn_of _ (by decide +kernel)) ggX6_gauge_X5_count
set_option maxRecDepth 20000 in
theorem ggX6_gauge_X6_checkIndex : GoodIn wsX6_gauge wsX6_checkIndex := goodIn_ca (goodIn_r _ [13, 14, 15] (by decide +kernel) (by decide +kernel)) (goodIn_sub (fun _ h => List.mem_cons_of_mem _ (List.mem_append_left _ (List.mem_append_right _ h))) (by decide +kernel))
set_option maxRecDepth 20000 in
theorem gX6_gauge_X6_checkIndex : GoodIn wsX6_gauge (va_wsS RX6 79 yX6_checkIndex wsX6_checkIndex) := goodIn_app (goodIn_of _ (by decide +kernel)) ggX6_gauge_X6_checkIndex
set_option maxRecDepth 20000 in
theorem ggX6_gauge_X6_cutLength : GoodIn wsX6_gauge wsX6_cutLength := goodIn_ca (goodIn_r _ [19, 20, 1, 2, 21, 22, 23, 24, 25, 7, 26, 27, 28, 29, 12, 30, 31, 32, 33, 34, 35, 36, 37, 38, 39, 40, 41, 66, 67, 68, 69, 70, 71, 72, 73, 74, 75, 76, 77, 78, 79, 80, 81, 82, 83, 84, 85, 86, 87] (by decide +kernel) (by decide +kernel)) (goodIn_sub (fun _ h => List.mem_cons_of_mem _ (List.mem_append_right _ h)) (by decide +kernel))
set_option maxRecDepth 20000 in
theorem gX6_gauge_X6_cutLength : GoodIn wsX6_gauge (wsV RX6 108 RX6 yX6_cutLength wsX6_cutLength) := goodIn_app (goodIn_of _ (by decide +kernel)) ggX6_gauge_X6_cutLength
set_option maxRecDepth 20000 in
theorem ggX6_gauge_X5_loadOf : GoodIn wsX6_gauge wsX5_loadOf := goodIn_ca (goodIn_r _ [45, 46, 75, 76, 77, 78, 79, 80] (by decide +kernel) (by decide +kernel)) (goodIn_sub (fun _ h => List.mem_cons_of_mem _ (List.mem_append_right _ h)) (by decide +kernel))
set_option maxRecDepth 20000 in
theorem gX6_gauge_X5_loadOf : GoodIn wsX6_gauge (wsV RX6 114 RX5 yX5_loadOf wsX5_loadOf) := goodIn_app (goodIn_of _ (by decide +kernel)) ggX6_gauge_X5_loadOf
set_option maxRecDepth 20000 in
theorem ggX6_gauge_X5_dropOf : GoodIn wsX6_gauge wsX5_dropOf := goodIn_ca (goodIn_r _ [50, 51, 75, 76, 77, 78, 79, 80] (by decide +kernel) (by decide +kernel)) (goodIn_sub (fun _ h => List.mem_cons_of_mem _ (List.mem_append_right _ h)) (by decide +kernel))
set_option maxRecDepth 20000 in
theorem gX6_gauge_X5_dropOf : GoodIn wsX6_gauge (wsV RX6 117 RX5 yX5_dropOf wsX5_dropOf) := goodIn_app (goodIn_of _ (by decide +kernel)) ggX6_gauge_X5_dropOf
set_option maxRecDepth 20000 in
theorem ggX6_gauge_X2_leastThatWillDo : GoodIn wsX6_gauge wsX2_leastThatWillDo := goodIn_ca (goodIn_r _ [56, 57, 58, 59, 60, 61, 55, 62, 63, 64, 65, 88, 89, 90] (by decide +kernel) (by decide +kernel)) (goodIn_sub (fun _ h => List.mem_cons_of_mem _ (List.mem_append_right _ h)) (by decide +kernel))
set_option maxRecDepth 20000 in
theorem gX6_gauge_X2_leastThatWillDo : GoodIn wsX6_gauge (wsV RX6 120 RX2 yX2_leastThatWillDo wsX2_leastThatWillDo) := goodIn_app (goodIn_of _ (by decide +kernel)) ggX6_gauge_X2_leastThatWillDo
theorem dX6_gauge_0 : decode cX6_gauge 0 = .ok (.iload_n 1, 1) := by decide +kernel
theorem dX6_gauge_1 : decode cX6_gauge 1 = .ok (.aload_n 0, 1) := by decide +kernel
theorem dX6_gauge_2 : decode cX6_gauge 2 = .ok (.getfield 19, 3) := by decide +kernel
theorem dX6_gauge_5 : decode cX6_gauge 5 = .ok (.invokevirtual 99, 3) := by decide +kernel
theorem dX6_gauge_8 : decode cX6_gauge 8 = .ok (.invokestatic 79, 3) := by decide +kernel
theorem dX6_gauge_11 : decode cX6_gauge 11 = .ok (.aload_n 0, 1) := by decide +kernel
theorem dX6_gauge_12 : decode cX6_gauge 12 = .ok (.iload_n 1, 1) := by decide +kernel
theorem dX6_gauge_13 : decode cX6_gauge 13 = .ok (.invokevirtual 108, 3) := by decide +kernel
theorem dX6_gauge_16 : decode cX6_gauge 16 = .ok (.lstore_n 2, 1) := by decide +kernel
theorem dX6_gauge_17 : decode cX6_gauge 17 = .ok (.lload_n 2, 1) := by decide +kernel
theorem dX6_gauge_18 : decode cX6_gauge 18 = .ok (.ldc2_w 112, 3) := by decide +kernel
theorem dX6_gauge_21 : decode cX6_gauge 21 = .ok (.lcmp, 1) := by decide +kernel
theorem dX6_gauge_22 : decode cX6_gauge 22 = .ok (.ifCond .ne 5, 3) := by decide +kernel
theorem dX6_gauge_25 : decode cX6_gauge 25 = .ok (.iconst (-1), 1) := by decide +kernel
theorem dX6_gauge_26 : decode cX6_gauge 26 = .ok (.ireturn, 1) := by decide +kernel
theorem dX6_gauge_27 : decode cX6_gauge 27 = .ok (.aload_n 0, 1) := by decide +kernel
theorem dX6_gauge_28 : decode cX6_gauge 28 = .ok (.getfield 26, 3) := by decide +kernel
theorem dX6_gauge_31 : decode cX6_gauge 31 = .ok (.aload_n 0, 1) := by decide +kernel
theorem dX6_gauge_32 : decode cX6_gauge 32 = .ok (.getfield 19, 3) := by decide +kernel
theorem dX6_gauge_35 : decode cX6_gauge 35 = .ok (.iload_n 1, 1) := by decide +kernel
theorem dX6_gauge_36 : decode cX6_gauge 36 = .ok (.invokevirtual 114, 3) := by decide +kernel
theorem dX6_gauge_39 : decode cX6_gauge 39 = .ok (.aload_n 0, 1) := by decide +kernel
theorem dX6_gauge_40 : decode cX6_gauge 40 = .ok (.getfield 19, 3) := by decide +kernel
theorem dX6_gauge_43 : decode cX6_gauge 43 = .ok (.iload_n 1, 1) := by decide +kernel
theorem dX6_gauge_44 : decode cX6_gauge 44 = .ok (.invokevirtual 117, 3) := by decide +kernel
theorem dX6_gauge_47 : decode cX6_gauge 47 = .ok (.lload_n 2, 1) := by decide +kernel
theorem dX6_gauge_48 : decode cX6_gauge 48 = .ok (.invokevirtual 120, 3) := by decide +kernel
theorem dX6_gauge_51 : decode cX6_gauge 51 = .ok (.ireturn, 1) := by decide +kernel
set_option maxRecDepth 20000 in
theorem ggX6_table_X6_checkIndex : GoodIn wsX6_table wsX6_checkIndex := goodIn_ca (goodIn_r _ [6, 7, 8] (by decide +kernel) (by decide +kernel)) (goodIn_sub (fun _ h => List.mem_cons_of_mem _ (List.mem_append_left _ (List.mem_append_left _ (List.mem_append_right _ h)))) (by decide +kernel))
set_option maxRecDepth 20000 in
theorem gX6_table_X6_checkIndex : GoodIn wsX6_table (va_wsS RX6 79 yX6_checkIndex wsX6_checkIndex) := goodIn_app (goodIn_of _ (by decide +kernel)) ggX6_table_X6_checkIndex
set_option maxRecDepth 20000 in
theorem ggX6_table_X6_checkNumber : GoodIn wsX6_table wsX6_checkNumber := goodIn_ca (goodIn_r _ [11, 12, 13] (by decide +kernel) (by decide +kernel)) (goodIn_sub (fun _ h => List.mem_cons_of_mem _ (List.mem_append_left _ (List.mem_append_right _ h))) (by decide +kernel))
set_option maxRecDepth 20000 in
theorem gX6_table_X6_checkNumber : GoodIn wsX6_table (va_wsS RX6 67 yX6_checkNumber wsX6_checkNumber) := goodIn_app (goodIn_of _ (by decide +kernel)) ggX6_table_X6_checkNumber
set_option maxRecDepth 20000 in
theorem ggX6_table_X2_tellRow : GoodIn wsX6_table wsX2_tellRow := goodIn_ca (goodIn_r _ [18, 19, 20, 21, 31, 32, 33] (by decide +kernel) (by decide +kernel)) (goodIn_sub (fun _ h => List.mem_cons_of_mem _ (List.mem_append_right _ h)) (by decide +kernel))
set_option maxRecDepth 20000 in
theorem gX6_table_X2_tellRow : GoodIn wsX6_table (wsV RX6 124 RX2 yX2_tellRow wsX2_tellRow) := goodIn_app (goodIn_of _ (by decide +kernel)) ggX6_table_X2_tellRow
theorem dX6_table_0 : decode cX6_table 0 = .ok (.iload_n 1, 1) := by decide +kernel
theorem dX6_table_1 : decode cX6_table 1 = .ok (.bipush 10, 2) := by decide +kernel
theorem dX6_table_3 : decode cX6_table 3 = .ok (.invokestatic 79, 3) := by decide +kernel
theorem dX6_table_6 : decode cX6_table 6 = .ok (.lload_n 2, 1) := by decide +kernel
theorem dX6_table_7 : decode cX6_table 7 = .ok (.lconst 1, 1) := by decide +kernel
theorem dX6_table_8 : decode cX6_table 8 = .ok (.ldc2_w 102, 3) := by decide +kernel
theorem dX6_table_11 : decode cX6_table 11 = .ok (.invokestatic 67, 3) := by decide +kernel
theorem dX6_table_14 : decode cX6_table 14 = .ok (.lload 4, 2) := by decide +kernel
theorem dX6_table_16 : decode cX6_table 16 = .ok (.lconst 1, 1) := by decide +kernel
theorem dX6_table_17 : decode cX6_table 17 = .ok (.ldc2_w 102, 3) := by decide +kernel
theorem dX6_table_20 : decode cX6_table 20 = .ok (.invokestatic 67, 3) := by decide +kernel
theorem dX6_table_23 : decode cX6_table 23 = .ok (.lload 6, 2) := by decide +kernel
theorem dX6_table_25 : decode cX6_table 25 = .ok (.lconst 1, 1) := by decide +kernel
theorem dX6_table_26 : decode cX6_table 26 = .ok (.ldc2_w 102, 3) := by decide +kernel
theorem dX6_table_29 : decode cX6_table 29 = .ok (.invokestatic 67, 3) := by decide +kernel
theorem dX6_table_32 : decode cX6_table 32 = .ok (.aload_n 0, 1) := by decide +kernel
theorem dX6_table_33 : decode cX6_table 33 = .ok (.getfield 26, 3) := by decide +kernel
theorem dX6_table_36 : decode cX6_table 36 = .ok (.iload_n 1, 1) := by decide +kernel
theorem dX6_table_37 : decode cX6_table 37 = .ok (.lload_n 2, 1) := by decide +kernel
theorem dX6_table_38 : decode cX6_table 38 = .ok (.lload 4, 2) := by decide +kernel
theorem dX6_table_40 : decode cX6_table 40 = .ok (.lload 6, 2) := by decide +kernel
theorem dX6_table_42 : decode cX6_table 42 = .ok (.invokevirtual 124, 3) := by decide +kernel
theorem dX6_table_45 : decode cX6_table 45 = .ok (.ireturn, 1) := by decide +kernel
set_option maxRecDepth 20000 in
theorem ggX6_length_X5_count : GoodIn wsX6_length wsX5_count := goodIn_r _ [6, 7, 50, 51, 52, 53, 54, 55] (by decide +kernel) (by decide +kernel)
set_option maxRecDepth 20000 in
theorem gX6_length_X5_count : GoodIn wsX6_length (wsV RX6 99 RX5 yX5_count wsX5_count) := goodIn_app (goodIn_of _ (by decide +kernel)) ggX6_length_X5_count
set_option maxRecDepth 20000 in
theorem ggX6_length_X6_checkIndex : GoodIn wsX6_length wsX6_checkIndex := goodIn_ca (goodIn_r _ [11, 12, 13] (by decide +kernel) (by decide +kernel)) (goodIn_sub (fun _ h => List.mem_cons_of_mem _ (List.mem_append_left _ (List.mem_append_right _ h))) (by decide +kernel))
set_option maxRecDepth 20000 in
theorem gX6_length_X6_checkIndex : GoodIn wsX6_length (va_wsS RX6 79 yX6_checkIndex wsX6_checkIndex) := goodIn_app (goodIn_of _ (by decide +kernel)) ggX6_length_X6_checkIndex
set_option maxRecDepth 20000 in
theorem ggX6_length_X6_cutLength : GoodIn wsX6_length wsX6_cutLength := goodIn_ca (goodIn_r _ [17, 18, 1, 19, 20, 21, 22, 23, 24, 5, 25, 26, 27, 28, 10, 29, 30, 31, 32, 33, 34, 35, 36, 37, 38, 39, 40, 41, 42, 43, 44, 45, 46, 47, 48, 49, 50, 51, 52, 53, 54, 55, 56, 57, 58, 59, 60, 61, 62] (by decide +kernel) (by decide +kernel)) (goodIn_sub (fun _ h => List.mem_cons_of_mem _ (List.mem_append_right _ h)) (by decide +kernel))
set_option maxRecDepth 20000 in
theorem gX6_length_X6_cutLength : GoodIn wsX6_length (wsV RX6 108 RX6 yX6_cutLength wsX6_cutLength) := goodIn_app (goodIn_of _ (by decide +kernel)) ggX6_length_X6_cutLength
theorem dX6_length_0 : decode cX6_length 0 = .ok (.iload_n 1, 1) := by decide +kernel
theorem dX6_length_1 : decode cX6_length 1 = .ok (.aload_n 0, 1) := by decide +kernel
theorem dX6_length_2 : decode cX6_length 2 = .ok (.getfield 19, 3) := by decide +kernel
theorem dX6_length_5 : decode cX6_length 5 = .ok (.invokevirtual 99, 3) := by decide +kernel
theorem dX6_length_8 : decode cX6_length 8 = .ok (.invokestatic 79, 3) := by decide +kernel
theorem dX6_length_11 : decode cX6_length 11 = .ok (.aload_n 0, 1) := by decide +kernel
theorem dX6_length_12 : decode cX6_length 12 = .ok (.iload_n 1, 1) := by decide +kernel
theorem dX6_length_13 : decode cX6_length 13 = .ok (.invokevirtual 108, 3) := by decide +kernel
theorem dX6_length_16 : decode cX6_length 16 = .ok (.lreturn, 1) := by decide +kernel
set_option maxRecDepth 20000 in
theorem ggX6_slack_X6_checkNumber : GoodIn wsX6_slack wsX6_checkNumber := goodIn_ca (goodIn_r _ [7, 8, 9] (by decide +kernel) (by decide +kernel)) (goodIn_sub (fun _ h => List.mem_cons_of_mem _ (List.mem_append_right _ h)) (by decide +kernel))
set_option maxRecDepth 20000 in
theorem gX6_slack_X6_checkNumber : GoodIn wsX6_slack (va_wsS RX6 67 yX6_checkNumber wsX6_checkNumber) := goodIn_app (goodIn_of _ (by decide +kernel)) ggX6_slack_X6_checkNumber
theorem dX6_slack_0 : decode cX6_slack 0 = .ok (.lload_n 3, 1) := by decide +kernel
theorem dX6_slack_1 : decode cX6_slack 1 = .ok (.lconst 1, 1) := by decide +kernel
theorem dX6_slack_2 : decode cX6_slack 2 = .ok (.ldc2_w 128, 3) := by decide +kernel
theorem dX6_slack_5 : decode cX6_slack 5 = .ok (.invokestatic 67, 3) := by decide +kernel
theorem dX6_slack_8 : decode cX6_slack 8 = .ok (.lload_n 1, 1) := by decide +kernel
theorem dX6_slack_9 : decode cX6_slack 9 = .ok (.lconst 0, 1) := by decide +kernel
theorem dX6_slack_10 : decode cX6_slack 10 = .ok (.lload_n 3, 1) := by decide +kernel
theorem dX6_slack_11 : decode cX6_slack 11 = .ok (.invokestatic 67, 3) := by decide +kernel
theorem dX6_slack_14 : decode cX6_slack 14 = .ok (.lload_n 1, 1) := by decide +kernel
theorem dX6_slack_15 : decode cX6_slack 15 = .ok (.aload_n 0, 1) := by decide +kernel
theorem dX6_slack_16 : decode cX6_slack 16 = .ok (.getfield 58, 3) := by decide +kernel
theorem dX6_slack_19 : decode cX6_slack 19 = .ok (.lcmp, 1) := by decide +kernel
theorem dX6_slack_20 : decode cX6_slack 20 = .ok (.ifCond .ne 12, 3) := by decide +kernel
theorem dX6_slack_23 : decode cX6_slack 23 = .ok (.lload_n 3, 1) := by decide +kernel
theorem dX6_slack_24 : decode cX6_slack 24 = .ok (.aload_n 0, 1) := by decide +kernel
theorem dX6_slack_25 : decode cX6_slack 25 = .ok (.getfield 62, 3) := by decide +kernel
theorem dX6_slack_28 : decode cX6_slack 28 = .ok (.lcmp, 1) := by decide +kernel
theorem dX6_slack_29 : decode cX6_slack 29 = .ok (.ifCond .eq 7, 3) := by decide +kernel
theorem dX6_slack_32 : decode cX6_slack 32 = .ok (.iconst 1, 1) := by decide +kernel
theorem dX6_slack_33 : decode cX6_slack 33 = .ok (.goto 4, 3) := by decide +kernel
theorem dX6_slack_36 : decode cX6_slack 36 = .ok (.iconst 0, 1) := by decide +kernel
theorem dX6_slack_37 : decode cX6_slack 37 = .ok (.istore 5, 2) := by decide +kernel
theorem dX6_slack_39 : decode cX6_slack 39 = .ok (.aload_n 0, 1) := by decide +kernel
theorem dX6_slack_40 : decode cX6_slack 40 = .ok (.lload_n 1, 1) := by decide +kernel
theorem dX6_slack_41 : decode cX6_slack 41 = .ok (.putfield 58, 3) := by decide +kernel
theorem dX6_slack_44 : decode cX6_slack 44 = .ok (.aload_n 0, 1) := by decide +kernel
theorem dX6_slack_45 : decode cX6_slack 45 = .ok (.lload_n 3, 1) := by decide +kernel
theorem dX6_slack_46 : decode cX6_slack 46 = .ok (.putfield 62, 3) := by decide +kernel
theorem dX6_slack_49 : decode cX6_slack 49 = .ok (.iload 5, 2) := by decide +kernel
theorem dX6_slack_51 : decode cX6_slack 51 = .ok (.ireturn, 1) := by decide +kernel
set_option maxRecDepth 20000 in
theorem ggX6_reel_X6_checkNumber : GoodIn wsX6_reel wsX6_checkNumber := goodIn_ca (goodIn_r _ [8, 9, 10] (by decide +kernel) (by decide +kernel)) (goodIn_sub (fun _ h => List.mem_cons_of_mem _ (List.mem_append_left _ (List.mem_append_right _ h))) (by decide +kernel))
set_option maxRecDepth 20000 in
theorem gX6_reel_X6_checkNumber : GoodIn wsX6_reel (va_wsS RX6 67 yX6_checkNumber wsX6_checkNumber) := goodIn_app (goodIn_of _ (by decide +kernel)) ggX6_reel_X6_checkNumber
set_option maxRecDepth 20000 in
theorem ggX6_reel_X0_begin : GoodIn wsX6_reel wsX0_begin := goodIn_r _ [15, 16, 17, 18, 19, 20, 21, 22, 23, 24, 25, 116, 117, 118, 119, 120, 121, 122, 123] (by decide +kernel) (by decide +kernel)
set_option maxRecDepth 20000 in
theorem gX6_reel_X0_begin : GoodIn wsX6_reel (wsV RX6 132 RX0 yX0_begin wsX0_begin) := goodIn_app (goodIn_of _ (by decide +kernel)) ggX6_reel_X0_begin
set_option maxRecDepth 20000 in
theorem ggX6_reel_X5_count : GoodIn wsX6_reel wsX5_count := goodIn_r _ [30, 31, 124, 125, 126, 127, 128, 129] (by decide +kernel) (by decide +kernel)
set_option maxRecDepth 20000 in
theorem gX6_reel_X5_count : GoodIn wsX6_reel (wsV RX6 99 RX5 yX5_count wsX5_count) := goodIn_app (goodIn_of _ (by decide +kernel)) ggX6_reel_X5_count
set_option maxRecDepth 20000 in
theorem ggX6_reel_X6_cutLength : GoodIn wsX6_reel wsX6_cutLength := goodIn_ca (goodIn_r _ [35, 36, 3, 4, 37, 38, 39, 40, 41, 29, 42, 43, 44, 45, 7, 46, 47, 48, 49, 50, 51, 52, 53, 54, 55, 56, 57, 107, 108, 109, 110, 111, 112, 113, 114, 115, 124, 125, 126, 127, 128, 129, 130, 131, 132, 133, 134, 135, 136] (by decide +kernel) (by decide +kernel)) (goodIn_sub (fun _ h => List.mem_cons_of_mem _ (List.mem_append_right _ h)) (by decide +kernel))
set_option maxRecDepth 20000 in
theorem gX6_reel_X6_cutLength : GoodIn wsX6_reel (wsV RX6 108 RX6 yX6_cutLength wsX6_cutLength) := goodIn_app (goodIn_of _ (by decide +kernel)) ggX6_reel_X6_cutLength
set_option maxRecDepth 20000 in
theorem ggX6_reel_X0_addPiece : GoodIn wsX6_reel wsX0_addPiece := goodIn_ca (goodIn_r _ [61, 18, 62, 63, 116, 117, 118, 119, 120, 121, 122, 123] (by decide +kernel) (by decide +kernel)) (goodIn_sub (fun _ h => List.mem_cons_of_mem _ (List.mem_append_right _ h)) (by decide +kernel))
set_option maxRecDepth 20000 in
theorem gX6_reel_X0_addPiece : GoodIn wsX6_reel (wsV RX6 135 RX0 yX0_addPiece wsX0_addPiece) := goodIn_app (goodIn_of _ (by decide +kernel)) ggX6_reel_X0_addPiece
set_option maxRecDepth 20000 in
theorem ggX6_reel_X0_pack : GoodIn wsX6_reel wsX0_pack := goodIn_ca (goodIn_r _ [67, 68, 18, 63, 69, 70, 71, 14, 72, 73, 74, 75, 76, 77, 78, 79, 80, 81, 16, 62, 82, 83, 84, 85, 86, 17, 87, 88, 89, 90, 91, 92, 93, 94, 95, 96, 97, 98, 99, 100, 101, 102, 103, 104, 105, 106, 116, 117, 118, 119, 120, 121, 122, 123] (by decide +kernel) (by decide +kernel)) (goodIn_sub (fun _ h => List.mem_cons_of_mem _ (List.mem_append_right _ h)) (by decide +kernel))
set_option maxRecDepth 20000 in
theorem gX6_reel_X0_pack : GoodIn wsX6_reel (wsV RX6 139 RX0 yX0_pack wsX0_pack) := goodIn_app (goodIn_of _ (by decide +kernel)) ggX6_reel_X0_pack
theorem dX6_reel_0 : decode cX6_reel 0 = .ok (.lload_n 1, 1) := by decide +kernel
theorem dX6_reel_1 : decode cX6_reel 1 = .ok (.lconst 1, 1) := by decide +kernel
theorem dX6_reel_2 : decode cX6_reel 2 = .ok (.ldc2_w 130, 3) := by decide +kernel
theorem dX6_reel_5 : decode cX6_reel 5 = .ok (.invokestatic 67, 3) := by decide +kernel
theorem dX6_reel_8 : decode cX6_reel 8 = .ok (.aload_n 0, 1) := by decide +kernel
theorem dX6_reel_9 : decode cX6_reel 9 = .ok (.getfield 33, 3) := by decide +kernel
theorem dX6_reel_12 : decode cX6_reel 12 = .ok (.invokevirtual 132, 3) := by decide +kernel
theorem dX6_reel_15 : decode cX6_reel 15 = .ok (.iconst 0, 1) := by decide +kernel
theorem dX6_reel_16 : decode cX6_reel 16 = .ok (.istore_n 3, 1) := by decide +kernel
theorem dX6_reel_17 : decode cX6_reel 17 = .ok (.iload_n 3, 1) := by decide +kernel
theorem dX6_reel_18 : decode cX6_reel 18 = .ok (.aload_n 0, 1) := by decide +kernel
theorem dX6_reel_19 : decode cX6_reel 19 = .ok (.getfield 19, 3) := by decide +kernel
theorem dX6_reel_22 : decode cX6_reel 22 = .ok (.invokevirtual 99, 3) := by decide +kernel
theorem dX6_reel_25 : decode cX6_reel 25 = .ok (.if_icmp .ge 35, 3) := by decide +kernel
theorem dX6_reel_28 : decode cX6_reel 28 = .ok (.aload_n 0, 1) := by decide +kernel
theorem dX6_reel_29 : decode cX6_reel 29 = .ok (.iload_n 3, 1) := by decide +kernel
theorem dX6_reel_30 : decode cX6_reel 30 = .ok (.invokevirtual 108, 3) := by decide +kernel
theorem dX6_reel_33 : decode cX6_reel 33 = .ok (.lstore 4, 2) := by decide +kernel
theorem dX6_reel_35 : decode cX6_reel 35 = .ok (.lload 4, 2) := by decide +kernel
theorem dX6_reel_37 : decode cX6_reel 37 = .ok (.ldc2_w 112, 3) := by decide +kernel
theorem dX6_reel_40 : decode cX6_reel 40 = .ok (.lcmp, 1) := by decide +kernel
theorem dX6_reel_41 : decode cX6_reel 41 = .ok (.ifCond .eq 13, 3) := by decide +kernel
theorem dX6_reel_44 : decode cX6_reel 44 = .ok (.aload_n 0, 1) := by decide +kernel
theorem dX6_reel_45 : decode cX6_reel 45 = .ok (.getfield 33, 3) := by decide +kernel
theorem dX6_reel_48 : decode cX6_reel 48 = .ok (.iload_n 3, 1) := by decide +kernel
theorem dX6_reel_49 : decode cX6_reel 49 = .ok (.lload 4, 2) := by decide +kernel
theorem dX6_reel_51 : decode cX6_reel 51 = .ok (.invokevirtual 135, 3) := by decide +kernel
theorem dX6_reel_54 : decode cX6_reel 54 = .ok (.iinc 3 1, 3) := by decide +kernel
theorem dX6_reel_57 : decode cX6_reel 57 = .ok (.goto (-40), 3) := by decide +kernel
theorem dX6_reel_60 : decode cX6_reel 60 = .ok (.aload_n 0, 1) := by decide +kernel
theorem dX6_reel_61 : decode cX6_reel 61 = .ok (.getfield 33, 3) := by decide +kernel
theorem dX6_reel_64 : decode cX6_reel 64 = .ok (.lload_n 1, 1) := by decide +kernel
theorem dX6_reel_65 : decode cX6_reel 65 = .ok (.invokevirtual 139, 3) := by decide +kernel
theorem dX6_reel_68 : decode cX6_reel 68 = .ok (.ireturn, 1) := by decide +kernel
set_option maxRecDepth 20000 in
theorem ggX6_reelOf_X5_count : GoodIn wsX6_reelOf wsX5_count := goodIn_r _ [7, 8, 30, 31, 32, 33, 34, 35] (by decide +kernel) (by decide +kernel)
set_option maxRecDepth 20000 in
theorem gX6_reelOf_X5_count : GoodIn wsX6_reelOf (wsV RX6 99 RX5 yX5_count wsX5_count) := goodIn_app (goodIn_of _ (by decide +kernel)) ggX6_reelOf_X5_count
set_option maxRecDepth 20000 in
theorem ggX6_reelOf_X6_checkIndex : GoodIn wsX6_reelOf wsX6_checkIndex := goodIn_ca (goodIn_r _ [12, 13, 14] (by decide +kernel) (by decide +kernel)) (goodIn_sub (fun _ h => List.mem_cons_of_mem _ (List.mem_append_left _ (List.mem_append_right _ h))) (by decide +kernel))
set_option maxRecDepth 20000 in
theorem gX6_reelOf_X6_checkIndex : GoodIn wsX6_reelOf (va_wsS RX6 79 yX6_checkIndex wsX6_checkIndex) := goodIn_app (goodIn_of _ (by decide +kernel)) ggX6_reelOf_X6_checkIndex
set_option maxRecDepth 20000 in
theorem ggX6_reelOf_X0_numberOf : GoodIn wsX6_reelOf wsX0_numberOf := goodIn_ca (goodIn_r _ [19, 20, 36, 37, 38, 39, 40, 41, 42, 43] (by decide +kernel) (by decide +kernel)) (goodIn_sub (fun _ h => List.mem_cons_of_mem _ (List.mem_append_right _ h)) (by decide +kernel))
set_option maxRecDepth 20000 in
theorem gX6_reelOf_X0_numberOf : GoodIn wsX6_reelOf (wsV RX6 143 RX0 yX0_numberOf wsX0_numberOf) := goodIn_app (goodIn_of _ (by decide +kernel)) ggX6_reelOf_X0_numberOf
theorem dX6_reelOf_0 : decode cX6_reelOf 0 = .ok (.iload_n 1, 1) := by decide +kernel
theorem dX6_reelOf_1 : decode cX6_reelOf 1 = .ok (.aload_n 0, 1) := by decide +kernel
theorem dX6_reelOf_2 : decode cX6_reelOf 2 = .ok (.getfield 19, 3) := by decide +kernel
theorem dX6_reelOf_5 : decode cX6_reelOf 5 = .ok (.invokevirtual 99, 3) := by decide +kernel
theorem dX6_reelOf_8 : decode cX6_reelOf 8 = .ok (.invokestatic 79, 3) := by decide +kernel
theorem dX6_reelOf_11 : decode cX6_reelOf 11 = .ok (.aload_n 0, 1) := by decide +kernel
theorem dX6_reelOf_12 : decode cX6_reelOf 12 = .ok (.getfield 33, 3) := by decide +kernel
theorem dX6_reelOf_15 : decode cX6_reelOf 15 = .ok (.iload_n 1, 1) := by decide +kernel
theorem dX6_reelOf_16 : decode cX6_reelOf 16 = .ok (.invokevirtual 143, 3) := by decide +kernel
theorem dX6_reelOf_19 : decode cX6_reelOf 19 = .ok (.ireturn, 1) := by decide +kernel
set_option maxRecDepth 20000 in
theorem ggX6_splice_X5_count : GoodIn wsX6_splice wsX5_count := goodIn_r _ [7, 8, 38, 39, 40, 41, 42, 43] (by decide +kernel) (by decide +kernel)
set_option maxRecDepth 20000 in
theorem gX6_splice_X5_count : GoodIn wsX6_splice (wsV RX6 99 RX5 yX5_count wsX5_count) := goodIn_app (goodIn_of _ (by decide +kernel)) ggX6_splice_X5_count
set_option maxRecDepth 20000 in
theorem ggX6_splice_X6_checkIndex : GoodIn wsX6_splice wsX6_checkIndex := goodIn_ca (goodIn_r _ [12, 13, 14] (by decide +kernel) (by decide +kernel)) (goodIn_sub (fun _ h => List.mem_cons_of_mem _ (List.mem_append_left _ (List.mem_append_right _ h))) (by decide +kernel))
set_option maxRecDepth 20000 in
theorem gX6_splice_X6_checkIndex : GoodIn wsX6_splice (va_wsS RX6 79 yX6_checkIndex wsX6_checkIndex) := goodIn_app (goodIn_of _ (by decide +kernel)) ggX6_splice_X6_checkIndex
set_option maxRecDepth 20000 in
theorem ggX6_splice_X1_add : GoodIn wsX6_splice wsX1_add := goodIn_ca (goodIn_r _ [19, 20, 21, 22, 23, 11, 24, 25, 26, 27, 18, 28, 44, 45, 46] (by decide +kernel) (by decide +kernel)) (goodIn_sub (fun _ h => List.mem_cons_of_mem _ (List.mem_append_right _ h)) (by decide +kernel))
set_option maxRecDepth 20000 in
theorem gX6_splice_X1_add : GoodIn wsX6_splice (wsV RX6 146 RX1 yX1_add wsX1_add) := goodIn_app (goodIn_of _ (by decide +kernel)) ggX6_splice_X1_add
theorem dX6_splice_0 : decode cX6_splice 0 = .ok (.iload_n 1, 1) := by decide +kernel
theorem dX6_splice_1 : decode cX6_splice 1 = .ok (.aload_n 0, 1) := by decide +kernel
theorem dX6_splice_2 : decode cX6_splice 2 = .ok (.getfield 19, 3) := by decide +kernel
theorem dX6_splice_5 : decode cX6_splice 5 = .ok (.invokevirtual 99, 3) := by decide +kernel
theorem dX6_splice_8 : decode cX6_splice 8 = .ok (.invokestatic 79, 3) := by decide +kernel
theorem dX6_splice_11 : decode cX6_splice 11 = .ok (.iload_n 2, 1) := by decide +kernel
theorem dX6_splice_12 : decode cX6_splice 12 = .ok (.aload_n 0, 1) := by decide +kernel
theorem dX6_splice_13 : decode cX6_splice 13 = .ok (.getfield 19, 3) := by decide +kernel
theorem dX6_splice_16 : decode cX6_splice 16 = .ok (.invokevirtual 99, 3) := by decide +kernel
theorem dX6_splice_19 : decode cX6_splice 19 = .ok (.invokestatic 79, 3) := by decide +kernel
theorem dX6_splice_22 : decode cX6_splice 22 = .ok (.aload_n 0, 1) := by decide +kernel
theorem dX6_splice_23 : decode cX6_splice 23 = .ok (.getfield 40, 3) := by decide +kernel
theorem dX6_splice_26 : decode cX6_splice 26 = .ok (.iload_n 1, 1) := by decide +kernel
theorem dX6_splice_27 : decode cX6_splice 27 = .ok (.iload_n 2, 1) := by decide +kernel
theorem dX6_splice_28 : decode cX6_splice 28 = .ok (.invokevirtual 146, 3) := by decide +kernel
theorem dX6_splice_31 : decode cX6_splice 31 = .ok (.ireturn, 1) := by decide +kernel
set_option maxRecDepth 20000 in
theorem ggX6_joined_X6_checkCavity : GoodIn wsX6_joined wsX6_checkCavity := goodIn_ca (goodIn_ca (goodIn_r _ [7, 8, 9, 10, 11, 12, 13, 14, 15, 16, 6, 17, 18, 19, 20, 21, 22, 23, 24, 42, 43, 44, 45, 46, 47, 48, 49, 50, 51, 52, 53, 54, 55, 56, 57] (by decide +kernel) (by decide +kernel)) (goodIn_sub (fun _ h => List.mem_cons_of_mem _ (List.mem_append_left _ (List.mem_append_right _ h))) (by decide +kernel))) (goodIn_sub (fun _ h => List.mem_cons_of_mem _ (List.mem_append_right _ h)) (by decide +kernel))
set_option maxRecDepth 20000 in
theorem gX6_joined_X6_checkCavity : GoodIn wsX6_joined (wsV RX6 89 RX6 yX6_checkCavity wsX6_checkCavity) := goodIn_app (goodIn_of _ (by decide +kernel)) ggX6_joined_X6_checkCavity
set_option maxRecDepth 20000 in
theorem ggX6_joined_X6_endOf : GoodIn wsX6_joined wsX6_endOf := goodIn_r _ [27] (by decide +kernel) (by decide +kernel)
set_option maxRecDepth 20000 in
theorem gX6_joined_X6_endOf : GoodIn wsX6_joined (va_wsS RX6 92 yX6_endOf wsX6_endOf) := goodIn_app (goodIn_of _ (by decide +kernel)) ggX6_joined_X6_endOf
set_option maxRecDepth 20000 in
theorem ggX6_joined_X5_wireAt : GoodIn wsX6_joined wsX5_wireAt := goodIn_ca (goodIn_r _ [32, 33, 34, 35, 58, 59, 60, 61, 62, 63] (by decide +kernel) (by decide +kernel)) (goodIn_sub (fun _ h => List.mem_cons_of_mem _ (List.mem_append_right _ h)) (by decide +kernel))
set_option maxRecDepth 20000 in
theorem gX6_joined_X5_wireAt : GoodIn wsX6_joined (wsV RX6 147 RX5 yX5_wireAt wsX5_wireAt) := goodIn_app (goodIn_of _ (by decide +kernel)) ggX6_joined_X5_wireAt
set_option maxRecDepth 20000 in
theorem ggX6_joined_X1_inOneGroup : GoodIn wsX6_joined wsX1_inOneGroup := goodIn_ca (goodIn_r _ [40, 41, 64, 65, 66] (by decide +kernel) (by decide +kernel)) (goodIn_sub (fun _ h => List.mem_cons_of_mem _ (List.mem_append_right _ h)) (by decide +kernel))
set_option maxRecDepth 20000 in
theorem gX6_joined_X1_inOneGroup : GoodIn wsX6_joined (wsV RX6 150 RX1 yX1_inOneGroup wsX1_inOneGroup) := goodIn_app (goodIn_of _ (by decide +kernel)) ggX6_joined_X1_inOneGroup
theorem dX6_joined_0 : decode cX6_joined 0 = .ok (.aload_n 0, 1) := by decide +kernel
theorem dX6_joined_1 : decode cX6_joined 1 = .ok (.iload_n 1, 1) := by decide +kernel
theorem dX6_joined_2 : decode cX6_joined 2 = .ok (.iload_n 2, 1) := by decide +kernel
theorem dX6_joined_3 : decode cX6_joined 3 = .ok (.invokevirtual 89, 3) := by decide +kernel
theorem dX6_joined_6 : decode cX6_joined 6 = .ok (.aload_n 0, 1) := by decide +kernel
theorem dX6_joined_7 : decode cX6_joined 7 = .ok (.iload_n 3, 1) := by decide +kernel
theorem dX6_joined_8 : decode cX6_joined 8 = .ok (.iload 4, 2) := by decide +kernel
theorem dX6_joined_10 : decode cX6_joined 10 = .ok (.invokevirtual 89, 3) := by decide +kernel
theorem dX6_joined_13 : decode cX6_joined 13 = .ok (.iload_n 1, 1) := by decide +kernel
theorem dX6_joined_14 : decode cX6_joined 14 = .ok (.iload_n 2, 1) := by decide +kernel
theorem dX6_joined_15 : decode cX6_joined 15 = .ok (.invokestatic 92, 3) := by decide +kernel
theorem dX6_joined_18 : decode cX6_joined 18 = .ok (.istore 5, 2) := by decide +kernel
theorem dX6_joined_20 : decode cX6_joined 20 = .ok (.iload_n 3, 1) := by decide +kernel
theorem dX6_joined_21 : decode cX6_joined 21 = .ok (.iload 4, 2) := by decide +kernel
theorem dX6_joined_23 : decode cX6_joined 23 = .ok (.invokestatic 92, 3) := by decide +kernel
theorem dX6_joined_26 : decode cX6_joined 26 = .ok (.istore 6, 2) := by decide +kernel
theorem dX6_joined_28 : decode cX6_joined 28 = .ok (.iload 5, 2) := by decide +kernel
theorem dX6_joined_30 : decode cX6_joined 30 = .ok (.iload 6, 2) := by decide +kernel
theorem dX6_joined_32 : decode cX6_joined 32 = .ok (.if_icmp .ne 5, 3) := by decide +kernel
theorem dX6_joined_35 : decode cX6_joined 35 = .ok (.iconst 1, 1) := by decide +kernel
theorem dX6_joined_36 : decode cX6_joined 36 = .ok (.ireturn, 1) := by decide +kernel
theorem dX6_joined_37 : decode cX6_joined 37 = .ok (.aload_n 0, 1) := by decide +kernel
theorem dX6_joined_38 : decode cX6_joined 38 = .ok (.getfield 19, 3) := by decide +kernel
theorem dX6_joined_41 : decode cX6_joined 41 = .ok (.iload 5, 2) := by decide +kernel
theorem dX6_joined_43 : decode cX6_joined 43 = .ok (.invokevirtual 147, 3) := by decide +kernel
theorem dX6_joined_46 : decode cX6_joined 46 = .ok (.istore 7, 2) := by decide +kernel
theorem dX6_joined_48 : decode cX6_joined 48 = .ok (.aload_n 0, 1) := by decide +kernel
theorem dX6_joined_49 : decode cX6_joined 49 = .ok (.getfield 19, 3) := by decide +kernel
theorem dX6_joined_52 : decode cX6_joined 52 = .ok (.iload 6, 2) := by decide +kernel
theorem dX6_joined_54 : decode cX6_joined 54 = .ok (.invokevirtual 147, 3) := by decide +kernel
theorem dX6_joined_57 : decode cX6_joined 57 = .ok (.istore 8, 2) := by decide +kernel
theorem dX6_joined_59 : decode cX6_joined 59 = .ok (.iload 7, 2) := by decide +kernel
theorem dX6_joined_61 : decode cX6_joined 61 = .ok (.iconst (-1), 1) := by decide +kernel
theorem dX6_joined_62 : decode cX6_joined 62 = .ok (.if_icmp .eq 27, 3) := by decide +kernel
theorem dX6_joined_65 : decode cX6_joined 65 = .ok (.iload 8, 2) := by decide +kernel
theorem dX6_joined_67 : decode cX6_joined 67 = .ok (.iconst (-1), 1) := by decide +kernel
theorem dX6_joined_68 : decode cX6_joined 68 = .ok (.if_icmp .eq 21, 3) := by decide +kernel
theorem dX6_joined_71 : decode cX6_joined 71 = .ok (.aload_n 0, 1) := by decide +kernel
theorem dX6_joined_72 : decode cX6_joined 72 = .ok (.getfield 40, 3) := by decide +kernel
theorem dX6_joined_75 : decode cX6_joined 75 = .ok (.iload 7, 2) := by decide +kernel
theorem dX6_joined_77 : decode cX6_joined 77 = .ok (.iload 8, 2) := by decide +kernel
theorem dX6_joined_79 : decode cX6_joined 79 = .ok (.invokevirtual 150, 3) := by decide +kernel
theorem dX6_joined_82 : decode cX6_joined 82 = .ok (.ifCond .eq 7, 3) := by decide +kernel
theorem dX6_joined_85 : decode cX6_joined 85 = .ok (.iconst 1, 1) := by decide +kernel
theorem dX6_joined_86 : decode cX6_joined 86 = .ok (.goto 4, 3) := by decide +kernel
theorem dX6_joined_89 : decode cX6_joined 89 = .ok (.iconst 0, 1) := by decide +kernel
theorem dX6_joined_90 : decode cX6_joined 90 = .ok (.ireturn, 1) := by decide +kernel
set_option maxRecDepth 20000 in
theorem ggX6_colour_X5_count : GoodIn wsX6_colour wsX5_count := goodIn_r _ [6, 7, 28, 29, 30, 31, 32, 33] (by decide +kernel) (by decide +kernel)
set_option maxRecDepth 20000 in
theorem gX6_colour_X5_count : GoodIn wsX6_colour (wsV RX6 99 RX5 yX5_count wsX5_count) := goodIn_app (goodIn_of _ (by decide +kernel)) ggX6_colour_X5_count
set_option maxRecDepth 20000 in
theorem ggX6_colour_X6_checkIndex : GoodIn wsX6_colour wsX6_checkIndex := goodIn_ca (goodIn_r _ [11, 12, 13] (by decide +kernel) (by decide +kernel)) (goodIn_sub (fun _ h => List.mem_cons_of_mem _ (List.mem_append_left _ (List.mem_append_right _ h))) (by decide +kernel))
set_option maxRecDepth 20000 in
theorem gX6_colour_X6_checkIndex : GoodIn wsX6_colour (va_wsS RX6 79 yX6_checkIndex wsX6_checkIndex) := goodIn_app (goodIn_of _ (by decide +kernel)) ggX6_colour_X6_checkIndex
set_option maxRecDepth 20000 in
theorem ggX6_colour_X5_colourOf : GoodIn wsX6_colour wsX5_colourOf := goodIn_ca (goodIn_r _ [17, 18, 28, 29, 30, 31, 32, 33] (by decide +kernel) (by decide +kernel)) (goodIn_sub (fun _ h => List.mem_cons_of_mem _ (List.mem_append_right _ h)) (by decide +kernel))
set_option maxRecDepth 20000 in
theorem gX6_colour_X5_colourOf : GoodIn wsX6_colour (wsV RX6 154 RX5 yX5_colourOf wsX5_colourOf) := goodIn_app (goodIn_of _ (by decide +kernel)) ggX6_colour_X5_colourOf
theorem dX6_colour_0 : decode cX6_colour 0 = .ok (.iload_n 1, 1) := by decide +kernel
theorem dX6_colour_1 : decode cX6_colour 1 = .ok (.aload_n 0, 1) := by decide +kernel
theorem dX6_colour_2 : decode cX6_colour 2 = .ok (.getfield 19, 3) := by decide +kernel
theorem dX6_colour_5 : decode cX6_colour 5 = .ok (.invokevirtual 99, 3) := by decide +kernel
theorem dX6_colour_8 : decode cX6_colour 8 = .ok (.invokestatic 79, 3) := by decide +kernel
theorem dX6_colour_11 : decode cX6_colour 11 = .ok (.aload_n 0, 1) := by decide +kernel
theorem dX6_colour_12 : decode cX6_colour 12 = .ok (.getfield 19, 3) := by decide +kernel
theorem dX6_colour_15 : decode cX6_colour 15 = .ok (.iload_n 1, 1) := by decide +kernel
theorem dX6_colour_16 : decode cX6_colour 16 = .ok (.invokevirtual 154, 3) := by decide +kernel
theorem dX6_colour_19 : decode cX6_colour 19 = .ok (.ireturn, 1) := by decide +kernel
set_option maxRecDepth 20000 in
theorem ggX6_variant_X4_add : GoodIn wsX6_variant wsX4_add := goodIn_r _ [6, 7, 17, 18, 19] (by decide +kernel) (by decide +kernel)
set_option maxRecDepth 20000 in
theorem gX6_variant_X4_add : GoodIn wsX6_variant (wsV RX6 157 RX4 yX4_add wsX4_add) := goodIn_app (goodIn_of _ (by decide +kernel)) ggX6_variant_X4_add
theorem dX6_variant_0 : decode cX6_variant 0 = .ok (.aload_n 0, 1) := by decide +kernel
theorem dX6_variant_1 : decode cX6_variant 1 = .ok (.getfield 47, 3) := by decide +kernel
theorem dX6_variant_4 : decode cX6_variant 4 = .ok (.invokevirtual 157, 3) := by decide +kernel
theorem dX6_variant_7 : decode cX6_variant 7 = .ok (.ireturn, 1) := by decide +kernel
set_option maxRecDepth 20000 in
theorem ggX6_has_X4_count : GoodIn wsX6_has wsX4_count := goodIn_r _ [7, 8, 42, 43, 44] (by decide +kernel) (by decide +kernel)
set_option maxRecDepth 20000 in
theorem gX6_has_X4_count : GoodIn wsX6_has (wsV RX6 159 RX4 yX4_count wsX4_count) := goodIn_app (goodIn_of _ (by decide +kernel)) ggX6_has_X4_count
set_option maxRecDepth 20000 in
theorem ggX6_has_X6_checkIndex : GoodIn wsX6_has wsX6_checkIndex := goodIn_ca (goodIn_r _ [12, 13, 14] (by decide +kernel) (by decide +kernel)) (goodIn_sub (fun _ h => List.mem_cons_of_mem _ (List.mem_append_left _ (List.mem_append_right _ h))) (by decide +kernel))
set_option maxRecDepth 20000 in
theorem gX6_has_X6_checkIndex : GoodIn wsX6_has (va_wsS RX6 79 yX6_checkIndex wsX6_checkIndex) := goodIn_app (goodIn_of _ (by decide +kernel)) ggX6_has_X6_checkIndex
set_option maxRecDepth 20000 in
theorem ggX6_has_X5_count : GoodIn wsX6_has wsX5_count := goodIn_r _ [19, 20, 45, 46, 47, 48, 49, 50] (by decide +kernel) (by decide +kernel)
set_option maxRecDepth 20000 in
theorem gX6_has_X5_count : GoodIn wsX6_has (wsV RX6 99 RX5 yX5_count wsX5_count) := goodIn_app (goodIn_of _ (by decide +kernel)) ggX6_has_X5_count
set_option maxRecDepth 20000 in
theorem ggX6_has_X4_tellWire : GoodIn wsX6_has wsX4_tellWire := goodIn_ca (goodIn_r _ [24, 25, 26, 27, 28, 29, 6, 30, 31, 11, 32, 42, 43, 44] (by decide +kernel) (by decide +kernel)) (goodIn_sub (fun _ h => List.mem_cons_of_mem _ (List.mem_append_right _ h)) (by decide +kernel))
set_option maxRecDepth 20000 in
theorem gX6_has_X4_tellWire : GoodIn wsX6_has (wsV RX6 160 RX4 yX4_tellWire wsX4_tellWire) := goodIn_app (goodIn_of _ (by decide +kernel)) ggX6_has_X4_tellWire
theorem dX6_has_0 : decode cX6_has 0 = .ok (.iload_n 1, 1) := by decide +kernel
theorem dX6_has_1 : decode cX6_has 1 = .ok (.aload_n 0, 1) := by decide +kernel
theorem dX6_has_2 : decode cX6_has 2 = .ok (.getfield 47, 3) := by decide +kernel
theorem dX6_has_5 : decode cX6_has 5 = .ok (.invokevirtual 159, 3) := by decide +kernel
theorem dX6_has_8 : decode cX6_has 8 = .ok (.invokestatic 79, 3) := by decide +kernel
theorem dX6_has_11 : decode cX6_has 11 = .ok (.iload_n 2, 1) := by decide +kernel
theorem dX6_has_12 : decode cX6_has 12 = .ok (.aload_n 0, 1) := by decide +kernel
theorem dX6_has_13 : decode cX6_has 13 = .ok (.getfield 19, 3) := by decide +kernel
theorem dX6_has_16 : decode cX6_has 16 = .ok (.invokevirtual 99, 3) := by decide +kernel
theorem dX6_has_19 : decode cX6_has 19 = .ok (.invokestatic 79, 3) := by decide +kernel
theorem dX6_has_22 : decode cX6_has 22 = .ok (.aload_n 0, 1) := by decide +kernel
theorem dX6_has_23 : decode cX6_has 23 = .ok (.getfield 47, 3) := by decide +kernel
theorem dX6_has_26 : decode cX6_has 26 = .ok (.iload_n 1, 1) := by decide +kernel
theorem dX6_has_27 : decode cX6_has 27 = .ok (.iload_n 2, 1) := by decide +kernel
theorem dX6_has_28 : decode cX6_has 28 = .ok (.iload_n 3, 1) := by decide +kernel
theorem dX6_has_29 : decode cX6_has 29 = .ok (.invokevirtual 160, 3) := by decide +kernel
theorem dX6_has_32 : decode cX6_has 32 = .ok (.ireturn, 1) := by decide +kernel
set_option maxRecDepth 20000 in
theorem ggX6_told_X6_checkIndex : GoodIn wsX6_told wsX6_checkIndex := goodIn_ca (goodIn_r _ [6, 7, 8] (by decide +kernel) (by decide +kernel)) (goodIn_sub (fun _ h => List.mem_cons_of_mem _ (List.mem_append_left _ (List.mem_append_right _ h))) (by decide +kernel))
set_option maxRecDepth 20000 in
theorem gX6_told_X6_checkIndex : GoodIn wsX6_told (va_wsS RX6 79 yX6_checkIndex wsX6_checkIndex) := goodIn_app (goodIn_of _ (by decide +kernel)) ggX6_told_X6_checkIndex
set_option maxRecDepth 20000 in
theorem ggX6_told_X5_count : GoodIn wsX6_told wsX5_count := goodIn_r _ [13, 14, 48, 49, 50, 51, 52, 53] (by decide +kernel) (by decide +kernel)
set_option maxRecDepth 20000 in
theorem gX6_told_X5_count : GoodIn wsX6_told (wsV RX6 99 RX5 yX5_count wsX5_count) := goodIn_app (goodIn_of _ (by decide +kernel)) ggX6_told_X5_count
set_option maxRecDepth 20000 in
theorem ggX6_told_X4_wireOff : GoodIn wsX6_told wsX4_wireOff := goodIn_ca (goodIn_r _ [19, 20, 21, 22, 23, 18, 24, 25, 26, 27, 5, 28, 54, 55, 56] (by decide +kernel) (by decide +kernel)) (goodIn_sub (fun _ h => List.mem_cons_of_mem _ (List.mem_append_right _ h)) (by decide +kernel))
set_option maxRecDepth 20000 in
theorem gX6_told_X4_wireOff : GoodIn wsX6_told (wsV RX6 164 RX4 yX4_wireOff wsX4_wireOff) := goodIn_app (goodIn_of _ (by decide +kernel)) ggX6_told_X4_wireOff
set_option maxRecDepth 20000 in
theorem ggX6_told_X5_firstEnd : GoodIn wsX6_told wsX5_firstEnd := goodIn_ca (goodIn_r _ [32, 33, 48, 49, 50, 51, 52, 53] (by decide +kernel) (by decide +kernel)) (goodIn_sub (fun _ h => List.mem_cons_of_mem _ (List.mem_append_right _ h)) (by decide +kernel))
set_option maxRecDepth 20000 in
theorem gX6_told_X5_firstEnd : GoodIn wsX6_told (wsV RX6 167 RX5 yX5_firstEnd wsX5_firstEnd) := goodIn_app (goodIn_of _ (by decide +kernel)) ggX6_told_X5_firstEnd
set_option maxRecDepth 20000 in
theorem ggX6_told_X5_otherEnd : GoodIn wsX6_told wsX5_otherEnd := goodIn_ca (goodIn_r _ [37, 38, 48, 49, 50, 51, 52, 53] (by decide +kernel) (by decide +kernel)) (goodIn_sub (fun _ h => List.mem_cons_of_mem _ (List.mem_append_right _ h)) (by decide +kernel))
set_option maxRecDepth 20000 in
theorem gX6_told_X5_otherEnd : GoodIn wsX6_told (wsV RX6 170 RX5 yX5_otherEnd wsX5_otherEnd) := goodIn_app (goodIn_of _ (by decide +kernel)) ggX6_told_X5_otherEnd
theorem dX6_told_0 : decode cX6_told 0 = .ok (.iload_n 2, 1) := by decide +kernel
theorem dX6_told_1 : decode cX6_told 1 = .ok (.iconst 2, 1) := by decide +kernel
theorem dX6_told_2 : decode cX6_told 2 = .ok (.invokestatic 79, 3) := by decide +kernel
theorem dX6_told_5 : decode cX6_told 5 = .ok (.aload_n 0, 1) := by decide +kernel
theorem dX6_told_6 : decode cX6_told 6 = .ok (.getfield 47, 3) := by decide +kernel
theorem dX6_told_9 : decode cX6_told 9 = .ok (.iload_n 1, 1) := by decide +kernel
theorem dX6_told_10 : decode cX6_told 10 = .ok (.aload_n 0, 1) := by decide +kernel
theorem dX6_told_11 : decode cX6_told 11 = .ok (.getfield 19, 3) := by decide +kernel
theorem dX6_told_14 : decode cX6_told 14 = .ok (.invokevirtual 99, 3) := by decide +kernel
theorem dX6_told_17 : decode cX6_told 17 = .ok (.invokevirtual 164, 3) := by decide +kernel
theorem dX6_told_20 : decode cX6_told 20 = .ok (.istore_n 3, 1) := by decide +kernel
theorem dX6_told_21 : decode cX6_told 21 = .ok (.iload_n 3, 1) := by decide +kernel
theorem dX6_told_22 : decode cX6_told 22 = .ok (.iconst (-1), 1) := by decide +kernel
theorem dX6_told_23 : decode cX6_told 23 = .ok (.if_icmp .ne 5, 3) := by decide +kernel
theorem dX6_told_26 : decode cX6_told 26 = .ok (.iconst (-1), 1) := by decide +kernel
theorem dX6_told_27 : decode cX6_told 27 = .ok (.ireturn, 1) := by decide +kernel
theorem dX6_told_28 : decode cX6_told 28 = .ok (.iload_n 2, 1) := by decide +kernel
theorem dX6_told_29 : decode cX6_told 29 = .ok (.ifCond .ne 14, 3) := by decide +kernel
theorem dX6_told_32 : decode cX6_told 32 = .ok (.aload_n 0, 1) := by decide +kernel
theorem dX6_told_33 : decode cX6_told 33 = .ok (.getfield 19, 3) := by decide +kernel
theorem dX6_told_36 : decode cX6_told 36 = .ok (.iload_n 3, 1) := by decide +kernel
theorem dX6_told_37 : decode cX6_told 37 = .ok (.invokevirtual 167, 3) := by decide +kernel
theorem dX6_told_40 : decode cX6_told 40 = .ok (.goto 11, 3) := by decide +kernel
theorem dX6_told_43 : decode cX6_told 43 = .ok (.aload_n 0, 1) := by decide +kernel
theorem dX6_told_44 : decode cX6_told 44 = .ok (.getfield 19, 3) := by decide +kernel
theorem dX6_told_47 : decode cX6_told 47 = .ok (.iload_n 3, 1) := by decide +kernel
theorem dX6_told_48 : decode cX6_told 48 = .ok (.invokevirtual 170, 3) := by decide +kernel
theorem dX6_told_51 : decode cX6_told 51 = .ok (.ireturn, 1) := by decide +kernel
set_option maxRecDepth 20000 in
theorem ggX6_command_X3_bundleCount : GoodIn wsX6_command wsX3_bundleCount := goodIn_r _ [7, 8, 257, 258, 259, 260, 261, 262, 263] (by decide +kernel) (by decide +kernel)
set_option maxRecDepth 20000 in
theorem gX6_command_X3_bundleCount : GoodIn wsX6_command (wsV RX6 173 RX3 yX3_bundleCount wsX3_bundleCount) := goodIn_app (goodIn_of _ (by decide +kernel)) ggX6_command_X3_bundleCount
set_option maxRecDepth 20000 in
theorem ggX6_command_X6_checkIndex : GoodIn wsX6_command wsX6_checkIndex := goodIn_ca (goodIn_r _ [12, 13, 14] (by decide +kernel) (by decide +kernel)) (goodIn_sub (fun _ h => List.mem_cons_of_mem _ (List.mem_append_left _ (List.mem_append_right _ h))) (by decide +kernel))
set_option maxRecDepth 20000 in
theorem gX6_command_X6_checkIndex : GoodIn wsX6_command (va_wsS RX6 79 yX6_checkIndex wsX6_checkIndex) := goodIn_app (goodIn_of _ (by decide +kernel)) ggX6_command_X6_checkIndex
set_option maxRecDepth 20000 in
theorem ggX6_command_X6_checkNotBelowZero : GoodIn wsX6_command wsX6_checkNotBelowZero := goodIn_ca (goodIn_r _ [17, 13, 14] (by decide +kernel) (by decide +kernel)) (goodIn_sub (fun _ h => List.mem_cons_of_mem _ (List.mem_append_left _ (List.mem_append_right _ h))) (by decide +kernel))
set_option maxRecDepth 20000 in
theorem gX6_command_X6_checkNotBelowZero : GoodIn wsX6_command (va_wsS RX6 176 yX6_checkNotBelowZero wsX6_checkNotBelowZero) := goodIn_app (goodIn_of _ (by decide +kernel)) ggX6_command_X6_checkNotBelowZero
set_option maxRecDepth 20000 in
theorem ggX6_command_X6_writeBundle : GoodIn wsX6_command wsX6_writeBundle := goodIn_ca (goodIn_r _ [21, 2, 1, 22, 23, 24, 25, 26, 27, 28, 29, 30, 31, 32, 33, 34, 35, 36, 37, 38, 39, 40, 41, 42, 43, 44, 45, 46, 47, 48, 49, 50, 51, 52, 53, 54, 55, 56, 57, 58, 59, 60, 61, 62, 63, 64, 65, 66, 67, 68, 69, 70, 71, 72, 73, 74, 75, 76, 77, 78, 79, 80, 81, 82, 83, 84, 85, 86, 87, 88, 89, 90, 91, 92, 93, 94, 95, 96, 97, 98, 99, 100, 101, 102, 103, 104, 105, 106, 107, 108, 109, 6, 110, 111, 112, 113, 114, 11, 115, 116, 117, 118, 119, 120, 121, 122, 123, 124, 125, 126, 127, 128, 129, 130, 131, 132, 133, 134, 135, 136, 137, 138, 139, 140, 141, 142, 143, 144, 145, 146, 147, 148, 149, 150, 151, 152, 153, 154, 155, 156, 157, 158, 159, 160, 161, 162, 163, 164, 165, 166, 167, 168, 169, 170, 171, 172, 173, 174, 175, 176, 177, 178, 179, 180, 181, 182, 183, 184, 185, 186, 187, 188, 189, 190, 191, 192, 193, 194, 195, 196, 197, 198, 199, 200, 201, 202, 203, 204, 205, 206, 207, 208, 209, 210, 211, 212, 213, 214, 215, 216, 217, 218, 219, 220, 221, 222, 223, 224, 225, 226, 248, 249, 250, 251, 252, 253, 254, 255, 256, 264, 265, 266, 267, 268, 269, 270, 271, 272, 273, 274, 275, 276, 277, 278, 279, 257, 258, 259, 260, 261, 262, 263] (by decide +kernel) (by decide +kernel)) (goodIn_sub (fun _ h => List.mem_cons_of_mem _ (List.mem_append_right _ h)) (by decide +kernel))
set_option maxRecDepth 20000 in
theorem gX6_command_X6_writeBundle : GoodIn wsX6_command (wsV RX6 180 RX6 yX6_writeBundle wsX6_writeBundle) := goodIn_app (goodIn_of _ (by decide +kernel)) ggX6_command_X6_writeBundle
set_option maxRecDepth 20000 in
theorem ggX6_command_J4_length_8abf5 : GoodIn wsX6_command wsJ4_length_8abf5 := goodIn_r _ [230, 231, 232, 29, 233, 31, 234, 36, 270, 271, 272, 273] (by decide +kernel) (by decide +kernel)
set_option maxRecDepth 20000 in
theorem gX6_command_J4_length_8abf5 : GoodIn wsX6_command (wsV RX6 183 RJ4 yJ4_length_8abf5 wsJ4_length_8abf5) := goodIn_app (goodIn_of _ (by decide +kernel)) ggX6_command_J4_length_8abf5
set_option maxRecDepth 20000 in
theorem ggX6_command_J4_charAt_5068e : GoodIn wsX6_command wsJ4_charAt_5068e := goodIn_r _ [238, 239, 240, 29, 241, 31, 242, 44, 37, 36, 243, 75, 57, 76, 244, 178, 158, 179, 160, 180, 181, 163, 182, 245, 246, 104, 247, 168, 169, 170, 153, 154, 155, 270, 271, 272, 273] (by decide +kernel) (by decide +kernel)
set_option maxRecDepth 20000 in
theorem gX6_command_J4_charAt_5068e : GoodIn wsX6_command (wsV RX6 186 RJ4 yJ4_charAt_5068e wsJ4_charAt_5068e) := goodIn_app (goodIn_of _ (by decide +kernel)) ggX6_command_J4_charAt_5068e
theorem dX6_command_0 : decode cX6_command 0 = .ok (.iload_n 1, 1) := by decide +kernel
theorem dX6_command_1 : decode cX6_command 1 = .ok (.aload_n 0, 1) := by decide +kernel
theorem dX6_command_2 : decode cX6_command 2 = .ok (.getfield 10, 3) := by decide +kernel
theorem dX6_command_5 : decode cX6_command 5 = .ok (.invokevirtual 173, 3) := by decide +kernel
theorem dX6_command_8 : decode cX6_command 8 = .ok (.invokestatic 79, 3) := by decide +kernel
theorem dX6_command_11 : decode cX6_command 11 = .ok (.iload_n 2, 1) := by decide +kernel
theorem dX6_command_12 : decode cX6_command 12 = .ok (.invokestatic 176, 3) := by decide +kernel
theorem dX6_command_15 : decode cX6_command 15 = .ok (.aload_n 0, 1) := by decide +kernel
theorem dX6_command_16 : decode cX6_command 16 = .ok (.iload_n 1, 1) := by decide +kernel
theorem dX6_command_17 : decode cX6_command 17 = .ok (.invokevirtual 180, 3) := by decide +kernel
theorem dX6_command_20 : decode cX6_command 20 = .ok (.iload_n 2, 1) := by decide +kernel
theorem dX6_command_21 : decode cX6_command 21 = .ok (.aload_n 0, 1) := by decide +kernel
theorem dX6_command_22 : decode cX6_command 22 = .ok (.getfield 54, 3) := by decide +kernel
theorem dX6_command_25 : decode cX6_command 25 = .ok (.invokevirtual 183, 3) := by decide +kernel
theorem dX6_command_28 : decode cX6_command 28 = .ok (.if_icmp .ge 14, 3) := by decide +kernel
theorem dX6_command_31 : decode cX6_command 31 = .ok (.aload_n 0, 1) := by decide +kernel
theorem dX6_command_32 : decode cX6_command 32 = .ok (.getfield 54, 3) := by decide +kernel
theorem dX6_command_35 : decode cX6_command 35 = .ok (.iload_n 2, 1) := by decide +kernel
theorem dX6_command_36 : decode cX6_command 36 = .ok (.invokevirtual 186, 3) := by decide +kernel
theorem dX6_command_39 : decode cX6_command 39 = .ok (.goto 4, 3) := by decide +kernel
theorem dX6_command_42 : decode cX6_command 42 = .ok (.iconst (-1), 1) := by decide +kernel
theorem dX6_command_43 : decode cX6_command 43 = .ok (.ireturn, 1) := by decide +kernel
theorem dX6_checkIndex_0 : decode cX6_checkIndex 0 = .ok (.iload_n 0, 1) := by decide +kernel
theorem dX6_checkIndex_1 : decode cX6_checkIndex 1 = .ok (.ifCond .lt 8, 3) := by decide +kernel
theorem dX6_checkIndex_4 : decode cX6_checkIndex 4 = .ok (.iload_n 0, 1) := by decide +kernel
theorem dX6_checkIndex_5 : decode cX6_checkIndex 5 = .ok (.iload_n 1, 1) := by decide +kernel
theorem dX6_checkIndex_6 : decode cX6_checkIndex 6 = .ok (.if_icmp .lt 13, 3) := by decide +kernel
theorem dX6_checkIndex_9 : decode cX6_checkIndex 9 = .ok (.new 190, 3) := by decide +kernel
theorem dX6_checkIndex_12 : decode cX6_checkIndex 12 = .ok (.dup, 1) := by decide +kernel
theorem dX6_checkIndex_13 : decode cX6_checkIndex 13 = .ok (.ldc 192, 2) := by decide +kernel
theorem dX6_checkIndex_15 : decode cX6_checkIndex 15 = .ok (.invokespecial 194, 3) := by decide +kernel
theorem dX6_checkIndex_18 : decode cX6_checkIndex 18 = .ok (.athrow, 1) := by decide +kernel
theorem dX6_checkIndex_19 : decode cX6_checkIndex 19 = .ok (.return_, 1) := by decide +kernel
theorem dX6_checkNotBelowZero_0 : decode cX6_checkNotBelowZero 0 = .ok (.iload_n 0, 1) := by decide +kernel
theorem dX6_checkNotBelowZero_1 : decode cX6_checkNotBelowZero 1 = .ok (.ifCond .ge 13, 3) := by decide +kernel
theorem dX6_checkNotBelowZero_4 : decode cX6_checkNotBelowZero 4 = .ok (.new 190, 3) := by decide +kernel
theorem dX6_checkNotBelowZero_7 : decode cX6_checkNotBelowZero 7 = .ok (.dup, 1) := by decide +kernel
theorem dX6_checkNotBelowZero_8 : decode cX6_checkNotBelowZero 8 = .ok (.ldc 197, 2) := by decide +kernel
theorem dX6_checkNotBelowZero_10 : decode cX6_checkNotBelowZero 10 = .ok (.invokespecial 194, 3) := by decide +kernel
theorem dX6_checkNotBelowZero_13 : decode cX6_checkNotBelowZero 13 = .ok (.athrow, 1) := by decide +kernel
theorem dX6_checkNotBelowZero_14 : decode cX6_checkNotBelowZero 14 = .ok (.return_, 1) := by decide +kernel
theorem dX6_checkNumber_0 : decode cX6_checkNumber 0 = .ok (.lload_n 0, 1) := by decide +kernel
theorem dX6_checkNumber_1 : decode cX6_checkNumber 1 = .ok (.lload_n 2, 1) := by decide +kernel
theorem dX6_checkNumber_2 : decode cX6_checkNumber 2 = .ok (.lcmp, 1) := by decide +kernel
theorem dX6_checkNumber_3 : decode cX6_checkNumber 3 = .ok (.ifCond .lt 10, 3) := by decide +kernel
theorem dX6_checkNumber_6 : decode cX6_checkNumber 6 = .ok (.lload_n 0, 1) := by decide +kernel
theorem dX6_checkNumber_7 : decode cX6_checkNumber 7 = .ok (.lload 4, 2) := by decide +kernel
theorem dX6_checkNumber_9 : decode cX6_checkNumber 9 = .ok (.lcmp, 1) := by decide +kernel
theorem dX6_checkNumber_10 : decode cX6_checkNumber 10 = .ok (.ifCond .le 13, 3) := by decide +kernel
theorem dX6_checkNumber_13 : decode cX6_checkNumber 13 = .ok (.new 199, 3) := by decide +kernel
theorem dX6_checkNumber_16 : decode cX6_checkNumber 16 = .ok (.dup, 1) := by decide +kernel
theorem dX6_checkNumber_17 : decode cX6_checkNumber 17 = .ok (.ldc 201, 2) := by decide +kernel
theorem dX6_checkNumber_19 : decode cX6_checkNumber 19 = .ok (.invokespecial 203, 3) := by decide +kernel
theorem dX6_checkNumber_22 : decode cX6_checkNumber 22 = .ok (.athrow, 1) := by decide +kernel
theorem dX6_checkNumber_23 : decode cX6_checkNumber 23 = .ok (.return_, 1) := by decide +kernel
set_option maxRecDepth 20000 in
theorem ggX6_checkCavity_X3_nodeCount : GoodIn wsX6_checkCavity wsX3_nodeCount := goodIn_r _ [6, 7, 28, 29, 30, 31, 32, 33, 34] (by decide +kernel) (by decide +kernel)
set_option maxRecDepth 20000 in
theorem gX6_checkCavity_X3_nodeCount : GoodIn wsX6_checkCavity (wsV RX6 75 RX3 yX3_nodeCount wsX3_nodeCount) := goodIn_app (goodIn_of _ (by decide +kernel)) ggX6_checkCavity_X3_nodeCount
set_option maxRecDepth 20000 in
theorem ggX6_checkCavity_X6_checkIndex : GoodIn wsX6_checkCavity wsX6_checkIndex := goodIn_ca (goodIn_r _ [11, 12, 13] (by decide +kernel) (by decide +kernel)) (goodIn_sub (fun _ h => List.mem_cons_of_mem _ (List.mem_append_left _ (List.mem_append_right _ h))) (by decide +kernel))
set_option maxRecDepth 20000 in
theorem gX6_checkCavity_X6_checkIndex : GoodIn wsX6_checkCavity (va_wsS RX6 79 yX6_checkIndex wsX6_checkIndex) := goodIn_app (goodIn_of _ (by decide +kernel)) ggX6_checkCavity_X6_checkIndex
set_option maxRecDepth 20000 in
theorem ggX6_checkCavity_X3_cavitiesOf : GoodIn wsX6_checkCavity wsX3_cavitiesOf := goodIn_ca (goodIn_r _ [17, 18, 28, 29, 30, 31, 32, 33, 34] (by decide +kernel) (by decide +kernel)) (goodIn_sub (fun _ h => List.mem_cons_of_mem _ (List.mem_append_right _ h)) (by decide +kernel))
set_option maxRecDepth 20000 in
theorem gX6_checkCavity_X3_cavitiesOf : GoodIn wsX6_checkCavity (wsV RX6 204 RX3 yX3_cavitiesOf wsX3_cavitiesOf) := goodIn_app (goodIn_of _ (by decide +kernel)) ggX6_checkCavity_X3_cavitiesOf
theorem dX6_checkCavity_0 : decode cX6_checkCavity 0 = .ok (.iload_n 1, 1) := by decide +kernel
theorem dX6_checkCavity_1 : decode cX6_checkCavity 1 = .ok (.aload_n 0, 1) := by decide +kernel
theorem dX6_checkCavity_2 : decode cX6_checkCavity 2 = .ok (.getfield 10, 3) := by decide +kernel
theorem dX6_checkCavity_5 : decode cX6_checkCavity 5 = .ok (.invokevirtual 75, 3) := by decide +kernel
theorem dX6_checkCavity_8 : decode cX6_checkCavity 8 = .ok (.invokestatic 79, 3) := by decide +kernel
theorem dX6_checkCavity_11 : decode cX6_checkCavity 11 = .ok (.iload_n 2, 1) := by decide +kernel
theorem dX6_checkCavity_12 : decode cX6_checkCavity 12 = .ok (.aload_n 0, 1) := by decide +kernel
theorem dX6_checkCavity_13 : decode cX6_checkCavity 13 = .ok (.getfield 10, 3) := by decide +kernel
theorem dX6_checkCavity_16 : decode cX6_checkCavity 16 = .ok (.iload_n 1, 1) := by decide +kernel
theorem dX6_checkCavity_17 : decode cX6_checkCavity 17 = .ok (.invokevirtual 204, 3) := by decide +kernel
theorem dX6_checkCavity_20 : decode cX6_checkCavity 20 = .ok (.invokestatic 79, 3) := by decide +kernel
theorem dX6_checkCavity_23 : decode cX6_checkCavity 23 = .ok (.return_, 1) := by decide +kernel
theorem dX6_endOf_0 : decode cX6_endOf 0 = .ok (.iload_n 0, 1) := by decide +kernel
theorem dX6_endOf_1 : decode cX6_endOf 1 = .ok (.bipush 16, 2) := by decide +kernel
theorem dX6_endOf_3 : decode cX6_endOf 3 = .ok (.imul, 1) := by decide +kernel
theorem dX6_endOf_4 : decode cX6_endOf 4 = .ok (.iload_n 1, 1) := by decide +kernel
theorem dX6_endOf_5 : decode cX6_endOf 5 = .ok (.iadd, 1) := by decide +kernel
theorem dX6_endOf_6 : decode cX6_endOf 6 = .ok (.ireturn, 1) := by decide +kernel
theorem dX6_nodeOf_0 : decode cX6_nodeOf 0 = .ok (.iload_n 0, 1) := by decide +kernel
theorem dX6_nodeOf_1 : decode cX6_nodeOf 1 = .ok (.bipush 16, 2) := by decide +kernel
theorem dX6_nodeOf_3 : decode cX6_nodeOf 3 = .ok (.idiv, 1) := by decide +kernel
theorem dX6_nodeOf_4 : decode cX6_nodeOf 4 = .ok (.ireturn, 1) := by decide +kernel
theorem dX6_hasBit_0 : decode cX6_hasBit 0 = .ok (.iload_n 0, 1) := by decide +kernel
theorem dX6_hasBit_1 : decode cX6_hasBit 1 = .ok (.iload_n 1, 1) := by decide +kernel
theorem dX6_hasBit_2 : decode cX6_hasBit 2 = .ok (.ishr, 1) := by decide +kernel
theorem dX6_hasBit_3 : decode cX6_hasBit 3 = .ok (.iconst 1, 1) := by decide +kernel
theorem dX6_hasBit_4 : decode cX6_hasBit 4 = .ok (.iand, 1) := by decide +kernel
theorem dX6_hasBit_5 : decode cX6_hasBit 5 = .ok (.ifCond .eq 7, 3) := by decide +kernel
theorem dX6_hasBit_8 : decode cX6_hasBit 8 = .ok (.iconst 1, 1) := by decide +kernel
theorem dX6_hasBit_9 : decode cX6_hasBit 9 = .ok (.goto 4, 3) := by decide +kernel
theorem dX6_hasBit_12 : decode cX6_hasBit 12 = .ok (.iconst 0, 1) := by decide +kernel
theorem dX6_hasBit_13 : decode cX6_hasBit 13 = .ok (.ireturn, 1) := by decide +kernel
set_option maxRecDepth 20000 in
theorem ggX6_cutLength_X5_firstEnd : GoodIn wsX6_cutLength wsX5_firstEnd := goodIn_ca (goodIn_r _ [10, 11, 36, 37, 38, 39, 40, 41] (by decide +kernel) (by decide +kernel)) (goodIn_sub (fun _ h => List.mem_cons_of_mem _ (List.mem_append_right _ h)) (by decide +kernel))
set_option maxRecDepth 20000 in
theorem gX6_cutLength_X5_firstEnd : GoodIn wsX6_cutLength (wsV RX6 167 RX5 yX5_firstEnd wsX5_firstEnd) := goodIn_app (goodIn_of _ (by decide +kernel)) ggX6_cutLength_X5_firstEnd
set_option maxRecDepth 20000 in
theorem ggX6_cutLength_X6_nodeOf : GoodIn wsX6_cutLength wsX6_nodeOf := goodIn_r _ [15] (by decide +kernel) (by decide +kernel)
set_option maxRecDepth 20000 in
theorem gX6_cutLength_X6_nodeOf : GoodIn wsX6_cutLength (va_wsS RX6 207 yX6_nodeOf wsX6_nodeOf) := goodIn_app (goodIn_of _ (by decide +kernel)) ggX6_cutLength_X6_nodeOf
set_option maxRecDepth 20000 in
theorem ggX6_cutLength_X5_otherEnd : GoodIn wsX6_cutLength wsX5_otherEnd := goodIn_ca (goodIn_r _ [19, 20, 36, 37, 38, 39, 40, 41] (by decide +kernel) (by decide +kernel)) (goodIn_sub (fun _ h => List.mem_cons_of_mem _ (List.mem_append_right _ h)) (by decide +kernel))
set_option maxRecDepth 20000 in
theorem gX6_cutLength_X5_otherEnd : GoodIn wsX6_cutLength (wsV RX6 170 RX5 yX5_otherEnd wsX5_otherEnd) := goodIn_app (goodIn_of _ (by decide +kernel)) ggX6_cutLength_X5_otherEnd
set_option maxRecDepth 20000 in
theorem ggX6_cutLength_X3_wayBetween : GoodIn wsX6_cutLength wsX3_wayBetween := goodIn_ca (goodIn_r _ [25, 26, 42, 43, 44, 45, 46, 47, 48] (by decide +kernel) (by decide +kernel)) (goodIn_sub (fun _ h => List.mem_cons_of_mem _ (List.mem_append_right _ h)) (by decide +kernel))
set_option maxRecDepth 20000 in
theorem gX6_cutLength_X3_wayBetween : GoodIn wsX6_cutLength (wsV RX6 210 RX3 yX3_wayBetween wsX3_wayBetween) := goodIn_app (goodIn_of _ (by decide +kernel)) ggX6_cutLength_X3_wayBetween
theorem dX6_cutLength_0 : decode cX6_cutLength 0 = .ok (.aload_n 0, 1) := by decide +kernel
theorem dX6_cutLength_1 : decode cX6_cutLength 1 = .ok (.getfield 10, 3) := by decide +kernel
theorem dX6_cutLength_4 : decode cX6_cutLength 4 = .ok (.aload_n 0, 1) := by decide +kernel
theorem dX6_cutLength_5 : decode cX6_cutLength 5 = .ok (.getfield 19, 3) := by decide +kernel
theorem dX6_cutLength_8 : decode cX6_cutLength 8 = .ok (.iload_n 1, 1) := by decide +kernel
theorem dX6_cutLength_9 : decode cX6_cutLength 9 = .ok (.invokevirtual 167, 3) := by decide +kernel
theorem dX6_cutLength_12 : decode cX6_cutLength 12 = .ok (.invokestatic 207, 3) := by decide +kernel
theorem dX6_cutLength_15 : decode cX6_cutLength 15 = .ok (.aload_n 0, 1) := by decide +kernel
theorem dX6_cutLength_16 : decode cX6_cutLength 16 = .ok (.getfield 19, 3) := by decide +kernel
theorem dX6_cutLength_19 : decode cX6_cutLength 19 = .ok (.iload_n 1, 1) := by decide +kernel
theorem dX6_cutLength_20 : decode cX6_cutLength 20 = .ok (.invokevirtual 170, 3) := by decide +kernel
theorem dX6_cutLength_23 : decode cX6_cutLength 23 = .ok (.invokestatic 207, 3) := by decide +kernel
theorem dX6_cutLength_26 : decode cX6_cutLength 26 = .ok (.invokevirtual 210, 3) := by decide +kernel
theorem dX6_cutLength_29 : decode cX6_cutLength 29 = .ok (.lstore_n 2, 1) := by decide +kernel
theorem dX6_cutLength_30 : decode cX6_cutLength 30 = .ok (.lload_n 2, 1) := by decide +kernel
theorem dX6_cutLength_31 : decode cX6_cutLength 31 = .ok (.ldc2_w 112, 3) := by decide +kernel
theorem dX6_cutLength_34 : decode cX6_cutLength 34 = .ok (.lcmp, 1) := by decide +kernel
theorem dX6_cutLength_35 : decode cX6_cutLength 35 = .ok (.ifCond .ne 7, 3) := by decide +kernel
theorem dX6_cutLength_38 : decode cX6_cutLength 38 = .ok (.ldc2_w 112, 3) := by decide +kernel
theorem dX6_cutLength_41 : decode cX6_cutLength 41 = .ok (.lreturn, 1) := by decide +kernel
theorem dX6_cutLength_42 : decode cX6_cutLength 42 = .ok (.lload_n 2, 1) := by decide +kernel
theorem dX6_cutLength_43 : decode cX6_cutLength 43 = .ok (.lload_n 2, 1) := by decide +kernel
theorem dX6_cutLength_44 : decode cX6_cutLength 44 = .ok (.aload_n 0, 1) := by decide +kernel
theorem dX6_cutLength_45 : decode cX6_cutLength 45 = .ok (.getfield 58, 3) := by decide +kernel
theorem dX6_cutLength_48 : decode cX6_cutLength 48 = .ok (.lmul, 1) := by decide +kernel
theorem dX6_cutLength_49 : decode cX6_cutLength 49 = .ok (.aload_n 0, 1) := by decide +kernel
theorem dX6_cutLength_50 : decode cX6_cutLength 50 = .ok (.getfield 62, 3) := by decide +kernel
theorem dX6_cutLength_53 : decode cX6_cutLength 53 = .ok (.ladd, 1) := by decide +kernel
theorem dX6_cutLength_54 : decode cX6_cutLength 54 = .ok (.lconst 1, 1) := by decide +kernel
theorem dX6_cutLength_55 : decode cX6_cutLength 55 = .ok (.lsub, 1) := by decide +kernel
theorem dX6_cutLength_56 : decode cX6_cutLength 56 = .ok (.aload_n 0, 1) := by decide +kernel
theorem dX6_cutLength_57 : decode cX6_cutLength 57 = .ok (.getfield 62, 3) := by decide +kernel
theorem dX6_cutLength_60 : decode cX6_cutLength 60 = .ok (.ldiv, 1) := by decide +kernel
theorem dX6_cutLength_61 : decode cX6_cutLength 61 = .ok (.ladd, 1) := by decide +kernel
theorem dX6_cutLength_62 : decode cX6_cutLength 62 = .ok (.lreturn, 1) := by decide +kernel
set_option maxRecDepth 20000 in
theorem ggX6_writeBundle_J4_setLength_d00df : GoodIn wsX6_writeBundle wsJ4_setLength_d00df := goodIn_r _ [7, 8, 9, 10, 11, 12, 13, 14, 15, 16, 17, 18, 19, 20, 21, 22, 23, 24, 25, 26, 27, 28, 29, 30, 31, 32, 33, 34, 35, 36, 37, 38, 39, 40, 41, 42, 43, 44, 45, 46, 47, 48, 49, 50, 51, 52, 53, 54, 55, 56, 57, 58, 59, 60, 61, 62, 63, 64, 65, 66, 67, 68, 69, 70, 71, 72, 73, 74, 75, 76, 77, 78, 79, 6, 80, 81, 82, 83, 84, 85, 86, 87, 219, 220, 221, 222, 223, 224, 225, 226, 227, 228, 229, 230, 231, 232, 233, 234] (by decide +kernel) (by decide +kernel)
set_option maxRecDepth 20000 in
theorem gX6_writeBundle_J4_setLength_d00df : GoodIn wsX6_writeBundle (wsV RX6 214 RJ4 yJ4_setLength_d00df wsJ4_setLength_d00df) := goodIn_app (goodIn_of _ (by decide +kernel)) ggX6_writeBundle_J4_setLength_d00df
set_option maxRecDepth 20000 in
theorem ggX6_writeBundle_X3_firstNode : GoodIn wsX6_writeBundle wsX3_firstNode := goodIn_ca (goodIn_r _ [92, 93, 235, 236, 237, 238, 239, 240, 241] (by decide +kernel) (by decide +kernel)) (goodIn_sub (fun _ h => List.mem_cons_of_mem _ (List.mem_append_right _ h)) (by decide +kernel))
set_option maxRecDepth 20000 in
theorem gX6_writeBundle_X3_firstNode : GoodIn wsX6_writeBundle (wsV RX6 217 RX3 yX3_firstNode wsX3_firstNode) := goodIn_app (goodIn_of _ (by decide +kernel)) ggX6_writeBundle_X3_firstNode
set_option maxRecDepth 20000 in
theorem ggX6_writeBundle_X6_writeNode : GoodIn wsX6_writeBundle wsX6_writeNode := goodIn_ca (goodIn_r _ [98, 1, 2, 99, 100, 101, 91, 102, 103, 104, 105, 106, 6, 107, 108, 109, 10, 110, 12, 111, 17, 18, 20, 21, 22, 23, 24, 25, 26, 27, 28, 29, 30, 31, 32, 33, 34, 35, 36, 37, 38, 39, 40, 41, 42, 43, 44, 45, 46, 47, 48, 49, 50, 51, 52, 53, 54, 55, 56, 57, 58, 59, 60, 61, 62, 63, 64, 65, 66, 67, 112, 113, 70, 114, 115, 116, 117, 118, 119, 120, 121, 85, 122, 123, 124, 125, 126, 127, 128, 129, 130, 131, 132, 133, 134, 135, 136, 137, 138, 139, 140, 141, 142, 143, 144, 145, 146, 147, 148, 149, 150, 151, 152, 153, 154, 155, 156, 157, 158, 159, 160, 161, 162, 163, 164, 165, 166, 167, 168, 169, 170, 171, 172, 173, 174, 175, 176, 177, 178, 179, 180, 181, 182, 183, 184, 185, 186, 187, 188, 189, 190, 191, 192, 193, 194, 195, 196, 197, 198, 199, 210, 211, 212, 213, 214, 215, 216, 217, 218, 235, 236, 237, 238, 239, 240, 241, 225, 226, 227, 228] (by decide +kernel) (by decide +kernel)) (goodIn_sub (fun _ h => List.mem_cons_of_mem _ (List.mem_append_right _ h)) (by decide +kernel))
set_option maxRecDepth 20000 in
theorem gX6_writeBundle_X6_writeNode : GoodIn wsX6_writeBundle (wsV RX6 220 RX6 yX6_writeNode wsX6_writeNode) := goodIn_app (goodIn_of _ (by decide +kernel)) ggX6_writeBundle_X6_writeNode
set_option maxRecDepth 20000 in
theorem ggX6_writeBundle_J4_append_cf468 : GoodIn wsX6_writeBundle wsJ4_append_cf468 := goodIn_r _ [107, 108, 109, 10, 110, 12, 111, 17, 18, 20, 21, 22, 23, 24, 25, 26, 27, 28, 29, 30, 31, 32, 33, 34, 35, 36, 37, 38, 39, 40, 41, 42, 43, 44, 45, 46, 47, 48, 49, 50, 51, 52, 53, 54, 55, 56, 57, 58, 59, 60, 61, 62, 63, 64, 65, 66, 67, 112, 113, 70, 114, 115, 116, 117, 118, 119, 120, 121, 85, 122, 123, 124, 125, 126, 127, 128, 129, 130, 131, 132, 133, 134, 135, 136, 137, 138, 139, 140, 141, 142, 143, 144, 145, 146, 147, 148, 149, 150, 151, 152, 153, 154, 155, 156, 157, 158, 159, 160, 161, 162, 163, 164, 165, 225, 226, 227, 228] (by decide +kernel) (by decide +kernel)
set_option maxRecDepth 20000 in
theorem gX6_writeBundle_J4_append_cf468 : GoodIn wsX6_writeBundle (wsV RX6 223 RJ4 yJ4_append_cf468 wsJ4_append_cf468) := goodIn_app (goodIn_of _ (by decide +kernel)) ggX6_writeBundle_J4_append_cf468
set_option maxRecDepth 20000 in
theorem ggX6_writeBundle_X3_otherNode : GoodIn wsX6_writeBundle wsX3_otherNode := goodIn_ca (goodIn_r _ [203, 204, 235, 236, 237, 238, 239, 240, 241] (by decide +kernel) (by decide +kernel)) (goodIn_sub (fun _ h => List.mem_cons_of_mem _ (List.mem_append_right _ h)) (by decide +kernel))
set_option maxRecDepth 20000 in
theorem gX6_writeBundle_X3_otherNode : GoodIn wsX6_writeBundle (wsV RX6 227 RX3 yX3_otherNode wsX3_otherNode) := goodIn_app (goodIn_of _ (by decide +kernel)) ggX6_writeBundle_X3_otherNode
set_option maxRecDepth 20000 in
theorem ggX6_writeBundle_X3_bundleLength : GoodIn wsX6_writeBundle wsX3_bundleLength := goodIn_ca (goodIn_r _ [208, 209, 235, 236, 237, 238, 239, 240, 241] (by decide +kernel) (by decide +kernel)) (goodIn_sub (fun _ h => List.mem_cons_of_mem _ (List.mem_append_right _ h)) (by decide +kernel))
set_option maxRecDepth 20000 in
theorem gX6_writeBundle_X3_bundleLength : GoodIn wsX6_writeBundle (wsV RX6 230 RX3 yX3_bundleLength wsX3_bundleLength) := goodIn_app (goodIn_of _ (by decide +kernel)) ggX6_writeBundle_X3_bundleLength
set_option maxRecDepth 20000 in
theorem ggX6_writeBundle_J4_append_bf812 : GoodIn wsX6_writeBundle wsJ4_append_bf812 := goodIn_r _ [169, 170, 171, 10, 172, 12, 173, 17, 18, 174, 175, 176, 177, 20, 21, 22, 23, 24, 25, 26, 27, 28, 29, 30, 31, 32, 33, 34, 35, 36, 37, 38, 39, 40, 41, 42, 43, 44, 45, 46, 47, 48, 49, 50, 51, 52, 53, 54, 55, 56, 57, 58, 59, 60, 61, 62, 63, 64, 65, 66, 67, 178, 179, 180, 181, 182, 183, 184, 85, 185, 151, 186, 187, 188, 136, 137, 138, 189, 190, 141, 191, 143, 192, 193, 146, 194, 195, 196, 197, 198, 199, 148, 149, 150, 152, 153, 225, 226, 227, 228] (by decide +kernel) (by decide +kernel)
set_option maxRecDepth 20000 in
theorem gX6_writeBundle_J4_append_bf812 : GoodIn wsX6_writeBundle (wsV RX6 233 RJ4 yJ4_append_bf812 wsJ4_append_bf812) := goodIn_app (goodIn_of _ (by decide +kernel)) ggX6_writeBundle_J4_append_bf812
theorem dX6_writeBundle_0 : decode cX6_writeBundle 0 = .ok (.aload_n 0, 1) := by decide +kernel
theorem dX6_writeBundle_1 : decode cX6_writeBundle 1 = .ok (.getfield 54, 3) := by decide +kernel
theorem dX6_writeBundle_4 : decode cX6_writeBundle 4 = .ok (.iconst 0, 1) := by decide +kernel
theorem dX6_writeBundle_5 : decode cX6_writeBundle 5 = .ok (.invokevirtual 214, 3) := by decide +kernel
theorem dX6_writeBundle_8 : decode cX6_writeBundle 8 = .ok (.aload_n 0, 1) := by decide +kernel
theorem dX6_writeBundle_9 : decode cX6_writeBundle 9 = .ok (.aload_n 0, 1) := by decide +kernel
theorem dX6_writeBundle_10 : decode cX6_writeBundle 10 = .ok (.getfield 10, 3) := by decide +kernel
theorem dX6_writeBundle_13 : decode cX6_writeBundle 13 = .ok (.iload_n 1, 1) := by decide +kernel
theorem dX6_writeBundle_14 : decode cX6_writeBundle 14 = .ok (.invokevirtual 217, 3) := by decide +kernel
theorem dX6_writeBundle_17 : decode cX6_writeBundle 17 = .ok (.invokevirtual 220, 3) := by decide +kernel
theorem dX6_writeBundle_20 : decode cX6_writeBundle 20 = .ok (.aload_n 0, 1) := by decide +kernel
theorem dX6_writeBundle_21 : decode cX6_writeBundle 21 = .ok (.getfield 54, 3) := by decide +kernel
theorem dX6_writeBundle_24 : decode cX6_writeBundle 24 = .ok (.bipush 45, 2) := by decide +kernel
theorem dX6_writeBundle_26 : decode cX6_writeBundle 26 = .ok (.invokevirtual 223, 3) := by decide +kernel
theorem dX6_writeBundle_29 : decode cX6_writeBundle 29 = .ok (.pop, 1) := by decide +kernel
theorem dX6_writeBundle_30 : decode cX6_writeBundle 30 = .ok (.aload_n 0, 1) := by decide +kernel
theorem dX6_writeBundle_31 : decode cX6_writeBundle 31 = .ok (.aload_n 0, 1) := by decide +kernel
theorem dX6_writeBundle_32 : decode cX6_writeBundle 32 = .ok (.getfield 10, 3) := by decide +kernel
theorem dX6_writeBundle_35 : decode cX6_writeBundle 35 = .ok (.iload_n 1, 1) := by decide +kernel
theorem dX6_writeBundle_36 : decode cX6_writeBundle 36 = .ok (.invokevirtual 227, 3) := by decide +kernel
theorem dX6_writeBundle_39 : decode cX6_writeBundle 39 = .ok (.invokevirtual 220, 3) := by decide +kernel
theorem dX6_writeBundle_42 : decode cX6_writeBundle 42 = .ok (.aload_n 0, 1) := by decide +kernel
theorem dX6_writeBundle_43 : decode cX6_writeBundle 43 = .ok (.getfield 54, 3) := by decide +kernel
theorem dX6_writeBundle_46 : decode cX6_writeBundle 46 = .ok (.bipush 32, 2) := by decide +kernel
theorem dX6_writeBundle_48 : decode cX6_writeBundle 48 = .ok (.invokevirtual 223, 3) := by decide +kernel
theorem dX6_writeBundle_51 : decode cX6_writeBundle 51 = .ok (.pop, 1) := by decide +kernel
theorem dX6_writeBundle_52 : decode cX6_writeBundle 52 = .ok (.aload_n 0, 1) := by decide +kernel
theorem dX6_writeBundle_53 : decode cX6_writeBundle 53 = .ok (.getfield 54, 3) := by decide +kernel
theorem dX6_writeBundle_56 : decode cX6_writeBundle 56 = .ok (.aload_n 0, 1) := by decide +kernel
theorem dX6_writeBundle_57 : decode cX6_writeBundle 57 = .ok (.getfield 10, 3) := by decide +kernel
theorem dX6_writeBundle_60 : decode cX6_writeBundle 60 = .ok (.iload_n 1, 1) := by decide +kernel
theorem dX6_writeBundle_61 : decode cX6_writeBundle 61 = .ok (.invokevirtual 230, 3) := by decide +kernel
theorem dX6_writeBundle_64 : decode cX6_writeBundle 64 = .ok (.invokevirtual 233, 3) := by decide +kernel
theorem dX6_writeBundle_67 : decode cX6_writeBundle 67 = .ok (.pop, 1) := by decide +kernel
theorem dX6_writeBundle_68 : decode cX6_writeBundle 68 = .ok (.return_, 1) := by decide +kernel
set_option maxRecDepth 20000 in
theorem ggX6_writeNode_X3_cavitiesOf : GoodIn wsX6_writeNode wsX3_cavitiesOf := goodIn_ca (goodIn_r _ [7, 8, 169, 170, 171, 172, 173, 174, 175] (by decide +kernel) (by decide +kernel)) (goodIn_sub (fun _ h => List.mem_cons_of_mem _ (List.mem_append_right _ h)) (by decide +kernel))
set_option maxRecDepth 20000 in
theorem gX6_writeNode_X3_cavitiesOf : GoodIn wsX6_writeNode (wsV RX6 204 RX3 yX3_cavitiesOf wsX3_cavitiesOf) := goodIn_app (goodIn_of _ (by decide +kernel)) ggX6_writeNode_X3_cavitiesOf
set_option maxRecDepth 20000 in
theorem ggX6_writeNode_J4_append_cf468 : GoodIn wsX6_writeNode wsJ4_append_cf468 := goodIn_r _ [13, 14, 15, 16, 17, 18, 19, 20, 21, 22, 23, 24, 25, 26, 27, 28, 29, 30, 31, 32, 33, 34, 35, 36, 37, 38, 39, 40, 41, 42, 43, 44, 45, 46, 47, 48, 49, 50, 51, 52, 53, 54, 55, 56, 57, 58, 59, 60, 61, 62, 63, 64, 65, 66, 67, 68, 69, 70, 71, 72, 73, 74, 75, 76, 77, 78, 79, 80, 81, 82, 83, 84, 85, 86, 87, 88, 89, 90, 91, 92, 93, 94, 95, 96, 97, 98, 99, 100, 101, 102, 103, 104, 105, 106, 107, 108, 109, 110, 111, 112, 113, 114, 115, 116, 117, 118, 119, 120, 121, 122, 123, 124, 125, 176, 177, 178, 179] (by decide +kernel) (by decide +kernel)
set_option maxRecDepth 20000 in
theorem gX6_writeNode_J4_append_cf468 : GoodIn wsX6_writeNode (wsV RX6 223 RJ4 yJ4_append_cf468 wsJ4_append_cf468) := goodIn_app (goodIn_of _ (by decide +kernel)) ggX6_writeNode_J4_append_cf468
set_option maxRecDepth 20000 in
theorem ggX6_writeNode_J4_append_bf812 : GoodIn wsX6_writeNode wsJ4_append_bf812 := goodIn_r _ [129, 130, 131, 16, 132, 18, 133, 20, 21, 134, 135, 136, 137, 22, 23, 24, 25, 26, 27, 28, 29, 30, 31, 32, 33, 34, 35, 36, 37, 38, 39, 40, 41, 42, 43, 44, 45, 46, 47, 48, 49, 50, 51, 52, 53, 54, 55, 56, 57, 58, 59, 60, 61, 62, 63, 64, 65, 66, 67, 68, 69, 138, 139, 140, 141, 142, 143, 144, 81, 145, 111, 146, 147, 148, 96, 97, 98, 149, 150, 101, 151, 103, 152, 153, 106, 154, 155, 156, 157, 158, 159, 108, 109, 110, 112, 113, 176, 177, 178, 179] (by decide +kernel) (by decide +kernel)
set_option maxRecDepth 20000 in
theorem gX6_writeNode_J4_append_bf812 : GoodIn wsX6_writeNode (wsV RX6 233 RJ4 yJ4_append_bf812 wsJ4_append_bf812) := goodIn_app (goodIn_of _ (by decide +kernel)) ggX6_writeNode_J4_append_bf812
theorem dX6_writeNode_0 : decode cX6_writeNode 0 = .ok (.aload_n 0, 1) := by decide +kernel
theorem dX6_writeNode_1 : decode cX6_writeNode 1 = .ok (.getfield 54, 3) := by decide +kernel
theorem dX6_writeNode_4 : decode cX6_writeNode 4 = .ok (.aload_n 0, 1) := by decide +kernel
theorem dX6_writeNode_5 : decode cX6_writeNode 5 = .ok (.getfield 10, 3) := by decide +kernel
theorem dX6_writeNode_8 : decode cX6_writeNode 8 = .ok (.iload_n 1, 1) := by decide +kernel
theorem dX6_writeNode_9 : decode cX6_writeNode 9 = .ok (.invokevirtual 204, 3) := by decide +kernel
theorem dX6_writeNode_12 : decode cX6_writeNode 12 = .ok (.ifCond .le 8, 3) := by decide +kernel
theorem dX6_writeNode_15 : decode cX6_writeNode 15 = .ok (.bipush 67, 2) := by decide +kernel
theorem dX6_writeNode_17 : decode cX6_writeNode 17 = .ok (.goto 5, 3) := by decide +kernel
theorem dX6_writeNode_20 : decode cX6_writeNode 20 = .ok (.bipush 78, 2) := by decide +kernel
theorem dX6_writeNode_22 : decode cX6_writeNode 22 = .ok (.invokevirtual 223, 3) := by decide +kernel
theorem dX6_writeNode_25 : decode cX6_writeNode 25 = .ok (.pop, 1) := by decide +kernel
theorem dX6_writeNode_26 : decode cX6_writeNode 26 = .ok (.aload_n 0, 1) := by decide +kernel
theorem dX6_writeNode_27 : decode cX6_writeNode 27 = .ok (.getfield 54, 3) := by decide +kernel
theorem dX6_writeNode_30 : decode cX6_writeNode 30 = .ok (.iload_n 1, 1) := by decide +kernel
theorem dX6_writeNode_31 : decode cX6_writeNode 31 = .ok (.invokevirtual 233, 3) := by decide +kernel
theorem dX6_writeNode_34 : decode cX6_writeNode 34 = .ok (.pop, 1) := by decide +kernel
theorem dX6_writeNode_35 : decode cX6_writeNode 35 = .ok (.return_, 1) := by decide +kernel
end
section
/-! My own judgement over the kit's W: gx X cells slots ws pc lv st: from every heap that holds the cells ws, with the variables lv and the operands st, at pc, the walk comes to its end. X: all that is fixed in one method's body. -/
abbrev gxT : Type := Program × Launch × Env × Room × State × MethodId × Array Value × List Frame × Method × Code × (Nat → Prop) × va_G × Nat × (State → Prop)
def gx (X : gxT) (cells slots : Nat) (ws : va_W) (pc : Nat) (lv : List (Nat × Value)) (st : List Value) : Prop :=
  match X with
  | (p, l, e, R, s, m, args, below, meth, c, A, D, nL, Q) => ∀ (H : Heap) (locs : List Loc) (ls : Array Slot), va_P D vwCl ws H → va_D A ws → va_S A s.heap H locs → lv_has ls nL lv → W p l e R s m args below meth c H locs cells slots Q (F0 m pc ls st)
def gx_C (X : gxT) (cc : ByteArray) (own : String) (Ts : List Cond) (tys : List (ClassId × FieldType)) (N : Nat) (Rm : Room) : Prop :=
  match X with
  | (p, _, _, R, s, m, args, _, _, c, A, D, nL, _) => p.tables.exec = Jvm.exec ∧ c.code = cc ∧ c.maxLocals = nL ∧ s.vm.findClass own = some m.cls ∧ (∀ w ∈ Ts, w.before args s = true) ∧ va_K D vwCl tys s ∧ (∀ q, s.heap.size ≤ q → A q) ∧ nL = N ∧ R = Rm
def lk (lv : List (Nat × Value)) (i : Nat) : Option Value := (lv.find? (fun q => q.1 == i)).map Prod.snd
theorem lk_has {ls : Array Slot} {nL : Nat} {lv : List (Nat × Value)} {i : Nat} {v : Value} (h : lv_has ls nL lv) (hk : lk lv i = some v) : ls[i]? = some (.val v) := by
  unfold lk at hk
  cases hq : lv.find? (fun q => q.1 == i) with
  | none => rw [hq] at hk; cases hk
  | some q =>
    rw [hq] at hk
    have hm := List.mem_of_find?_eq_some hq
    have hp := List.find?_some hq
    have hi : q.1 = i := by simpa using hp
    have h2 := h.2.2 q hm
    rw [hi] at h2
    cases hk
    exact h2
section GX
variable {X : gxT} {cells slots : Nat} {ws : va_W} {pc : Nat} {lv : List (Nat × Value)} {st : List Value} {cc : ByteArray} {own : String} {Ts : List Cond} {tys : List (ClassId × FieldType)} {N : Nat} {Rm : Room}
theorem g_iconst (C : gx_C X cc own Ts tys N Rm) {n : Int} {v : Int32} (hdg : decode cc pc = .ok (.iconst n, 1)) (pc' : Nat) (hp : pc + 1 = pc') (hv : Int32.ofInt n = v) (k : gx X cells slots ws pc' lv (.int v :: st)) : gx X cells slots ws pc lv st := by
  obtain ⟨p, l, e, R, s, m, args, below, meth, c, A, D, nL, Q⟩ := X
  subst hp
  exact fun H locs ls hP hD hS hl => lv_iconst C.1 C.2.1 hdg hv (k H locs ls hP hD hS hl)
theorem g_bipush (C : gx_C X cc own Ts tys N Rm) {n : Int} {v : Int32} (hdg : decode cc pc = .ok (.bipush n, 2)) (pc' : Nat) (hp : pc + 2 = pc') (hv : (Int8.ofInt n).toInt32 = v) (k : gx X cells slots ws pc' lv (.int v :: st)) : gx X cells slots ws pc lv st := by
  obtain ⟨p, l, e, R, s, m, args, below, meth, c, A, D, nL, Q⟩ := X
  subst hp
  exact fun H locs ls hP hD hS hl => lv_bipush C.1 C.2.1 hdg hv (k H locs ls hP hD hS hl)
theorem g_sipush (C : gx_C X cc own Ts tys N Rm) {n : Int} {v : Int32} (hdg : decode cc pc = .ok (.sipush n, 3)) (pc' : Nat) (hp : pc + 3 = pc') (hv : (Int16.ofInt n).toInt32 = v) (k : gx X cells slots ws pc' lv (.int v :: st)) : gx X cells slots ws pc lv st := by
  obtain ⟨p, l, e, R, s, m, args, below, meth, c, A, D, nL, Q⟩ := X
  subst hp
  exact fun H locs ls hP hD hS hl => lv_sipush C.1 C.2.1 hdg hv (k H locs ls hP hD hS hl)
theorem g_lconst (C : gx_C X cc own Ts tys N Rm) {n : Fin 2} {v : Int64} (hdg : decode cc pc = .ok (.lconst n, 1)) (pc' : Nat) (hp : pc + 1 = pc') (hv : Int64.ofNat (n : Nat) = v) (k : gx X cells slots ws pc' lv (.long v :: st)) : gx X cells slots ws pc lv st := by
  obtain ⟨p, l, e, R, s, m, args, below, meth, c, A, D, nL, Q⟩ := X
  subst hp
  exact fun H locs ls hP hD hS hl => lv_lconst C.1 C.2.1 hdg hv (k H locs ls hP hD hS hl)
theorem g_ldc (C : gx_C X cc own Ts tys N Rm) {index : Nat} (v : Int32) (hc : Jvm.Cond.constant own index v ∈ Ts) (hdg : decode cc pc = .ok (.ldc index, 2)) (pc' : Nat) (hp : pc + 2 = pc') (k : gx X cells slots ws pc' lv (.int v :: st)) : gx X cells slots ws pc lv st := by
  obtain ⟨p, l, e, R, s, m, args, below, meth, c, A, D, nL, Q⟩ := X
  subst hp
  exact fun H locs ls hP hD hS hl => lv_ldc C.1 C.2.1 C.2.2.2.1 (C.2.2.2.2.1 _ hc) hdg (k H locs ls hP hD hS hl)
theorem g_ldc2 (C : gx_C X cc own Ts tys N Rm) {index : Nat} (v : Int64) (hc : Jvm.Cond.constantLong own index v ∈ Ts) (hdg : decode cc pc = .ok (.ldc2_w index, 3)) (pc' : Nat) (hp : pc + 3 = pc') (k : gx X cells slots ws pc' lv (.long v :: st)) : gx X cells slots ws pc lv st := by
  obtain ⟨p, l, e, R, s, m, args, below, meth, c, A, D, nL, Q⟩ := X
  subst hp
  exact fun H locs ls hP hD hS hl => lv_ldc2 C.1 C.2.1 C.2.2.2.1 (C.2.2.2.2.1 _ hc) hdg (k H locs ls hP hD hS hl)
theorem g_iload_n (C : gx_C X cc own Ts tys N Rm) {k0 : Fin 4} {x : Int32} (hdg : decode cc pc = .ok (.iload_n k0, 1)) (pc' : Nat) (hp : pc + 1 = pc') (hk : lk lv (k0 : Nat) = some (.int x)) (k : gx X cells slots ws pc' lv (.int x :: st)) : gx X cells slots ws pc lv st := by
  obtain ⟨p, l, e, R, s, m, args, below, meth, c, A, D, nL, Q⟩ := X
  subst hp
  exact fun H locs ls hP hD hS hl => lv_iload_n C.1 C.2.1 hdg rfl (lk_has hl hk) (k H locs ls hP hD hS hl)
theorem g_iload (C : gx_C X cc own Ts tys N Rm) {i : Nat} {x : Int32} (hdg : decode cc pc = .ok (.iload i, 2)) (pc' : Nat) (hp : pc + 2 = pc') (hk : lk lv i = some (.int x)) (k : gx X cells slots ws pc' lv (.int x :: st)) : gx X cells slots ws pc lv st := by
  obtain ⟨p, l, e, R, s, m, args, below, meth, c, A, D, nL, Q⟩ := X
  subst hp
  exact fun H locs ls hP hD hS hl => lv_iload C.1 C.2.1 hdg (lk_has hl hk) (k H locs ls hP hD hS hl)
theorem g_lload_n (C : gx_C X cc own Ts tys N Rm) {k0 : Fin 4} {x : Int64} (hdg : decode cc pc = .ok (.lload_n k0, 1)) (pc' : Nat) (hp : pc + 1 = pc') (hk : lk lv (k0 : Nat) = some (.long x)) (k : gx X cells slots ws pc' lv (.long x :: st)) : gx X cells slots ws pc lv st := by
  obtain ⟨p, l, e, R, s, m, args, below, meth, c, A, D, nL, Q⟩ := X
  subst hp
  exact fun H locs ls hP hD hS hl => lv_lload_n C.1 C.2.1 hdg rfl (lk_has hl hk) (k H locs ls hP hD hS hl)
theorem g_lload (C : gx_C X cc own Ts tys N Rm) {i : Nat} {x : Int64} (hdg : decode cc pc = .ok (.lload i, 2)) (pc' : Nat) (hp : pc + 2 = pc') (hk : lk lv i = some (.long x)) (k : gx X cells slots ws pc' lv (.long x :: st)) : gx X cells slots ws pc lv st := by
  obtain ⟨p, l, e, R, s, m, args, below, meth, c, A, D, nL, Q⟩ := X
  subst hp
  exact fun H locs ls hP hD hS hl => lv_lload C.1 C.2.1 hdg (lk_has hl hk) (k H locs ls hP hD hS hl)
theorem g_aload_n (C : gx_C X cc own Ts tys N Rm) {k0 : Fin 4} {x : Nat} (hdg : decode cc pc = .ok (.aload_n k0, 1)) (pc' : Nat) (hp : pc + 1 = pc') (hk : lk lv (k0 : Nat) = some (.ref x)) (k : gx X cells slots ws pc' lv (.ref x :: st)) : gx X cells slots ws pc lv st := by
  obtain ⟨p, l, e, R, s, m, args, below, meth, c, A, D, nL, Q⟩ := X
  subst hp
  exact fun H locs ls hP hD hS hl => lv_aload_n C.1 C.2.1 hdg rfl (lk_has hl hk) (k H locs ls hP hD hS hl)
theorem g_aload (C : gx_C X cc own Ts tys N Rm) {i : Nat} {x : Nat} (hdg : decode cc pc = .ok (.aload i, 2)) (pc' : Nat) (hp : pc + 2 = pc') (hk : lk lv i = some (.ref x)) (k : gx X cells slots ws pc' lv (.ref x :: st)) : gx X cells slots ws pc lv st := by
  obtain ⟨p, l, e, R, s, m, args, below, meth, c, A, D, nL, Q⟩ := X
  subst hp
  exact fun H locs ls hP hD hS hl => lv_aload C.1 C.2.1 hdg (lk_has hl hk) (k H locs ls hP hD hS hl)
theorem g_istore_n (C : gx_C X cc own Ts tys N Rm) {k0 : Fin 4} {x : Int32} (hdg : decode cc pc = .ok (.istore_n k0, 1)) (pc' : Nat) (hp : pc + 1 = pc') (hn : (k0 : Nat) < N) (ks : List Nat) {lv' : List (Nat × Value)} (hl' : lv_pick (((k0 : Nat), Value.int x) :: lv.filter (fun q => !(q.1 == (k0 : Nat)) && !(q.1 + 1 == (k0 : Nat) && q.2.category == 2))) ks = lv') (k : gx X cells slots ws pc' lv' st) : gx X cells slots ws pc lv (.int x :: st) := by
  obtain ⟨p, l, e, R, s, m, args, below, meth, c, A, D, nL, Q⟩ := X
  subst hp
  exact fun H locs ls hP hD hS hl => lv_istore_n C.1 C.2.1 hdg rfl hl (by rw [C.2.2.2.2.2.2.2.1]; exact hn) rfl (fun ls' h' => k H locs ls' hP hD hS (lv_sub h' ks hl'))
theorem g_istore (C : gx_C X cc own Ts tys N Rm) {i : Nat} {x : Int32} (hdg : decode cc pc = .ok (.istore i, 2)) (pc' : Nat) (hp : pc + 2 = pc') (hn : i < N) (ks : List Nat) {lv' : List (Nat × Value)} (hl' : lv_pick ((i, Value.int x) :: lv.filter (fun q => !(q.1 == i) && !(q.1 + 1 == i && q.2.category == 2))) ks = lv') (k : gx X cells slots ws pc' lv' st) : gx X cells slots ws pc lv (.int x :: st) := by
  obtain ⟨p, l, e, R, s, m, args, below, meth, c, A, D, nL, Q⟩ := X
  subst hp
  exact fun H locs ls hP hD hS hl => lv_istore C.1 C.2.1 hdg hl (by rw [C.2.2.2.2.2.2.2.1]; exact hn) rfl (fun ls' h' => k H locs ls' hP hD hS (lv_sub h' ks hl'))
theorem g_lstore_n (C : gx_C X cc own Ts tys N Rm) {k0 : Fin 4} {x : Int64} (hdg : decode cc pc = .ok (.lstore_n k0, 1)) (pc' : Nat) (hp : pc + 1 = pc') (hn : (k0 : Nat) + 1 < N) (ks : List Nat) {lv' : List (Nat × Value)} (hl' : lv_pick (((k0 : Nat), Value.long x) :: lv.filter (fun q => !(q.1 == (k0 : Nat)) && (!(q.1 == (k0 : Nat) + 1) && !(q.1 + 1 == (k0 : Nat) && q.2.category == 2)))) ks = lv') (k : gx X cells slots ws pc' lv' st) : gx X cells slots ws pc lv (.long x :: st) := by
  obtain ⟨p, l, e, R, s, m, args, below, meth, c, A, D, nL, Q⟩ := X
  subst hp
  exact fun H locs ls hP hD hS hl => lv_lstore_n C.1 C.2.1 hdg rfl hl (by rw [C.2.2.2.2.2.2.2.1]; exact hn) rfl (fun ls' h' => k H locs ls' hP hD hS (lv_sub h' ks hl'))
theorem g_lstore (C : gx_C X cc own Ts tys N Rm) {i : Nat} {x : Int64} (hdg : decode cc pc = .ok (.lstore i, 2)) (pc' : Nat) (hp : pc + 2 = pc') (hn : i + 1 < N) (ks : List Nat) {lv' : List (Nat × Value)} (hl' : lv_pick ((i, Value.long x) :: lv.filter (fun q => !(q.1 == i) && (!(q.1 == i + 1) && !(q.1 + 1 == i && q.2.category == 2)))) ks = lv') (k : gx X cells slots ws pc' lv' st) : gx X cells slots ws pc lv (.long x :: st) := by
  obtain ⟨p, l, e, R, s, m, args, below, meth, c, A, D, nL, Q⟩ := X
  subst hp
  exact fun H locs ls hP hD hS hl => lv_lstore C.1 C.2.1 hdg hl (by rw [C.2.2.2.2.2.2.2.1]; exact hn) rfl (fun ls' h' => k H locs ls' hP hD hS (lv_sub h' ks hl'))
theorem g_astore_n (C : gx_C X cc own Ts tys N Rm) {k0 : Fin 4} {x : Nat} (hdg : decode cc pc = .ok (.astore_n k0, 1)) (pc' : Nat) (hp : pc + 1 = pc') (hn : (k0 : Nat) < N) (ks : List Nat) {lv' : List (Nat × Value)} (hl' : lv_pick (((k0 : Nat), Value.ref x) :: lv.filter (fun q => !(q.1 == (k0 : Nat)) && !(q.1 + 1 == (k0 : Nat) && q.2.category == 2))) ks = lv') (k : gx X cells slots ws pc' lv' st) : gx X cells slots ws pc lv (.ref x :: st) := by
  obtain ⟨p, l, e, R, s, m, args, below, meth, c, A, D, nL, Q⟩ := X
  subst hp
  exact fun H locs ls hP hD hS hl => lv_astore_n C.1 C.2.1 hdg rfl hl (by rw [C.2.2.2.2.2.2.2.1]; exact hn) rfl (fun ls' h' => k H locs ls' hP hD hS (lv_sub h' ks hl'))
theorem g_astore (C : gx_C X cc own Ts tys N Rm) {i : Nat} {x : Nat} (hdg : decode cc pc = .ok (.astore i, 2)) (pc' : Nat) (hp : pc + 2 = pc') (hn : i < N) (ks : List Nat) {lv' : List (Nat × Value)} (hl' : lv_pick ((i, Value.ref x) :: lv.filter (fun q => !(q.1 == i) && !(q.1 + 1 == i && q.2.category == 2))) ks = lv') (k : gx X cells slots ws pc' lv' st) : gx X cells slots ws pc lv (.ref x :: st) := by
  obtain ⟨p, l, e, R, s, m, args, below, meth, c, A, D, nL, Q⟩ := X
  subst hp
  exact fun H locs ls hP hD hS hl => lv_astore C.1 C.2.1 hdg hl (by rw [C.2.2.2.2.2.2.2.1]; exact hn) rfl (fun ls' h' => k H locs ls' hP hD hS (lv_sub h' ks hl'))
theorem lk_pos {lv : List (Nat × Value)} {i : Nat} {v : Value} (hk : lk lv i = some v) : ∃ k : Nat, lv[k]? = some (i, v) := by
  unfold lk at hk
  cases hq : lv.find? (fun q => q.1 == i) with
  | none => rw [hq] at hk; cases hk
  | some q =>
    rw [hq] at hk
    have hm := List.mem_of_find?_eq_some hq
    have hi : q.1 = i := by simpa using List.find?_some hq
    obtain ⟨k, hk2⟩ := List.mem_iff_getElem?.mp hm
    refine ⟨k, hk2.trans ?_⟩
    cases hk
    rw [← hi]
theorem g_iinc (C : gx_C X cc own Ts tys N Rm) {i : Nat} {n : Int} {x v : Int32} (hdg : decode cc pc = .ok (.iinc i n, 3)) (pc' : Nat) (hp : pc + 3 = pc') (hk : lk lv i = some (.int x)) (hv : x + Int32.ofInt n = v) (hn : i < N) (ks : List Nat) {lv' : List (Nat × Value)} (hl' : lv_pick ((i, Value.int v) :: lv.filter (fun q => !(q.1 == i) && !(q.1 + 1 == i && q.2.category == 2))) ks = lv') (k : gx X cells slots ws pc' lv' st) : gx X cells slots ws pc lv st := by
  obtain ⟨p, l, e, R, s, m, args, below, meth, c, A, D, nL, Q⟩ := X
  subst hp
  obtain ⟨k2, hk2⟩ := lk_pos hk
  exact fun H locs ls hP hD hS hl => lv_iinc C.1 C.2.1 hdg hl hk2 hv (by rw [C.2.2.2.2.2.2.2.1]; exact hn) rfl (fun ls' h' => k H locs ls' hP hD hS (lv_sub h' ks hl'))
/-- the variables in another order, or fewer -/
theorem g_lv (ks : List Nat) {lv' : List (Nat × Value)} (hl' : lv_pick lv ks = lv') (k : gx X cells slots ws pc lv' st) : gx X cells slots ws pc lv st := by
  obtain ⟨p, l, e, R, s, m, args, below, meth, c, A, D, nL, Q⟩ := X
  exact fun H locs ls hP hD hS hl => k H locs ls hP hD hS (lv_sub hl ks hl')
/-- the cells said otherwise -/
theorem g_ws {ws' : va_W} (h : ws = ws') (k : gx X cells slots ws' pc lv st) : gx X cells slots ws pc lv st := h ▸ k
theorem g_st {st' : List Value} (h : st = st') (k : gx X cells slots ws pc lv st') : gx X cells slots ws pc lv st := h ▸ k
theorem g_topi {x : Int32} (y : Int32) (h : x = y) (k : gx X cells slots ws pc lv (.int y :: st)) : gx X cells slots ws pc lv (.int x :: st) := h ▸ k
theorem g_topl {x : Int64} (y : Int64) (h : x = y) (k : gx X cells slots ws pc lv (.long y :: st)) : gx X cells slots ws pc lv (.long x :: st) := h ▸ k
theorem g_widen {k n : Nat} (h1 : cells ≤ k) (h2 : slots ≤ n) (kk : gx X k n ws pc lv st) : gx X cells slots ws pc lv st := by
  obtain ⟨p, l, e, R, s, m, args, below, meth, c, A, D, nL, Q⟩ := X
  exact fun H locs ls hP hD hS hl => W.widen h1 h2 (kk H locs ls hP hD hS hl)
end GX
section GXA
variable {X : gxT} {cells slots : Nat} {ws : va_W} {pc : Nat} {lv : List (Nat × Value)} {st : List Value} {cc : ByteArray} {own : String} {Ts : List Cond} {tys : List (ClassId × FieldType)} {N : Nat} {Rm : Room}
theorem g_iadd (C : gx_C X cc own Ts tys N Rm) {x y : Int32} (hdg : decode cc pc = .ok (.iadd, 1)) (pc' : Nat) (hp : pc + 1 = pc') (k : gx X cells slots ws pc' lv (.int (x + y) :: st)) : gx X cells slots ws pc lv (.int y :: .int x :: st) := by
  obtain ⟨p, l, e, R, s, m, args, below, meth, c, A, D, nL, Q⟩ := X
  subst hp
  exact fun H locs ls hP hD hS hl => lv_iadd C.1 C.2.1 hdg (k H locs ls hP hD hS hl)
theorem g_isub (C : gx_C X cc own Ts tys N Rm) {x y : Int32} (hdg : decode cc pc = .ok (.isub, 1)) (pc' : Nat) (hp : pc + 1 = pc') (k : gx X cells slots ws pc' lv (.int (x - y) :: st)) : gx X cells slots ws pc lv (.int y :: .int x :: st) := by
  obtain ⟨p, l, e, R, s, m, args, below, meth, c, A, D, nL, Q⟩ := X
  subst hp
  exact fun H locs ls hP hD hS hl => lv_isub C.1 C.2.1 hdg (k H locs ls hP hD hS hl)
theorem g_imul (C : gx_C X cc own Ts tys N Rm) {x y : Int32} (hdg : decode cc pc = .ok (.imul, 1)) (pc' : Nat) (hp : pc + 1 = pc') (k : gx X cells slots ws pc' lv (.int (x * y) :: st)) : gx X cells slots ws pc lv (.int y :: .int x :: st) := by
  obtain ⟨p, l, e, R, s, m, args, below, meth, c, A, D, nL, Q⟩ := X
  subst hp
  exact fun H locs ls hP hD hS hl => lv_imul C.1 C.2.1 hdg (k H locs ls hP hD hS hl)
theorem g_iand (C : gx_C X cc own Ts tys N Rm) {x y : Int32} (hdg : decode cc pc = .ok (.iand, 1)) (pc' : Nat) (hp : pc + 1 = pc') (k : gx X cells slots ws pc' lv (.int (x &&& y) :: st)) : gx X cells slots ws pc lv (.int y :: .int x :: st) := by
  obtain ⟨p, l, e, R, s, m, args, below, meth, c, A, D, nL, Q⟩ := X
  subst hp
  exact fun H locs ls hP hD hS hl => lv_iand C.1 C.2.1 hdg (k H locs ls hP hD hS hl)
theorem g_ior (C : gx_C X cc own Ts tys N Rm) {x y : Int32} (hdg : decode cc pc = .ok (.ior, 1)) (pc' : Nat) (hp : pc + 1 = pc') (k : gx X cells slots ws pc' lv (.int (x ||| y) :: st)) : gx X cells slots ws pc lv (.int y :: .int x :: st) := by
  obtain ⟨p, l, e, R, s, m, args, below, meth, c, A, D, nL, Q⟩ := X
  subst hp
  exact fun H locs ls hP hD hS hl => lv_ior C.1 C.2.1 hdg (k H locs ls hP hD hS hl)
theorem g_ixor (C : gx_C X cc own Ts tys N Rm) {x y : Int32} (hdg : decode cc pc = .ok (.ixor, 1)) (pc' : Nat) (hp : pc + 1 = pc') (k : gx X cells slots ws pc' lv (.int (x ^^^ y) :: st)) : gx X cells slots ws pc lv (.int y :: .int x :: st) := by
  obtain ⟨p, l, e, R, s, m, args, below, meth, c, A, D, nL, Q⟩ := X
  subst hp
  exact fun H locs ls hP hD hS hl => lv_ixor C.1 C.2.1 hdg (k H locs ls hP hD hS hl)
theorem g_idiv (C : gx_C X cc own Ts tys N Rm) {x y : Int32} (hdg : decode cc pc = .ok (.idiv, 1)) (pc' : Nat) (hp : pc + 1 = pc') (hne : ¬ y = 0) (k : gx X cells slots ws pc' lv (.int (x / y) :: st)) : gx X cells slots ws pc lv (.int y :: .int x :: st) := by
  obtain ⟨p, l, e, R, s, m, args, below, meth, c, A, D, nL, Q⟩ := X
  subst hp
  exact fun H locs ls hP hD hS hl => lv_idiv C.1 C.2.1 hdg hne (k H locs ls hP hD hS hl)
theorem g_ladd (C : gx_C X cc own Ts tys N Rm) {x y : Int64} (hdg : decode cc pc = .ok (.ladd, 1)) (pc' : Nat) (hp : pc + 1 = pc') (k : gx X cells slots ws pc' lv (.long (x + y) :: st)) : gx X cells slots ws pc lv (.long y :: .long x :: st) := by
  obtain ⟨p, l, e, R, s, m, args, below, meth, c, A, D, nL, Q⟩ := X
  subst hp
  exact fun H locs ls hP hD hS hl => lv_ladd C.1 C.2.1 hdg (k H locs ls hP hD hS hl)
theorem g_lsub (C : gx_C X cc own Ts tys N Rm) {x y : Int64} (hdg : decode cc pc = .ok (.lsub, 1)) (pc' : Nat) (hp : pc + 1 = pc') (k : gx X cells slots ws pc' lv (.long (x - y) :: st)) : gx X cells slots ws pc lv (.long y :: .long x :: st) := by
  obtain ⟨p, l, e, R, s, m, args, below, meth, c, A, D, nL, Q⟩ := X
  subst hp
  exact fun H locs ls hP hD hS hl => lv_lsub C.1 C.2.1 hdg (k H locs ls hP hD hS hl)
theorem g_lmul (C : gx_C X cc own Ts tys N Rm) {x y : Int64} (hdg : decode cc pc = .ok (.lmul, 1)) (pc' : Nat) (hp : pc + 1 = pc') (k : gx X cells slots ws pc' lv (.long (x * y) :: st)) : gx X cells slots ws pc lv (.long y :: .long x :: st) := by
  obtain ⟨p, l, e, R, s, m, args, below, meth, c, A, D, nL, Q⟩ := X
  subst hp
  exact fun H locs ls hP hD hS hl => lv_lmul C.1 C.2.1 hdg (k H locs ls hP hD hS hl)
theorem g_land (C : gx_C X cc own Ts tys N Rm) {x y : Int64} (hdg : decode cc pc = .ok (.land, 1)) (pc' : Nat) (hp : pc + 1 = pc') (k : gx X cells slots ws pc' lv (.long (x &&& y) :: st)) : gx X cells slots ws pc lv (.long y :: .long x :: st) := by
  obtain ⟨p, l, e, R, s, m, args, below, meth, c, A, D, nL, Q⟩ := X
  subst hp
  exact fun H locs ls hP hD hS hl => lv_land C.1 C.2.1 hdg (k H locs ls hP hD hS hl)
theorem g_lor (C : gx_C X cc own Ts tys N Rm) {x y : Int64} (hdg : decode cc pc = .ok (.lor, 1)) (pc' : Nat) (hp : pc + 1 = pc') (k : gx X cells slots ws pc' lv (.long (x ||| y) :: st)) : gx X cells slots ws pc lv (.long y :: .long x :: st) := by
  obtain ⟨p, l, e, R, s, m, args, below, meth, c, A, D, nL, Q⟩ := X
  subst hp
  exact fun H locs ls hP hD hS hl => lv_lor C.1 C.2.1 hdg (k H locs ls hP hD hS hl)
theorem g_lxor (C : gx_C X cc own Ts tys N Rm) {x y : Int64} (hdg : decode cc pc = .ok (.lxor, 1)) (pc' : Nat) (hp : pc + 1 = pc') (k : gx X cells slots ws pc' lv (.long (x ^^^ y) :: st)) : gx X cells slots ws pc lv (.long y :: .long x :: st) := by
  obtain ⟨p, l, e, R, s, m, args, below, meth, c, A, D, nL, Q⟩ := X
  subst hp
  exact fun H locs ls hP hD hS hl => lv_lxor C.1 C.2.1 hdg (k H locs ls hP hD hS hl)
theorem g_ldiv (C : gx_C X cc own Ts tys N Rm) {x y : Int64} (hdg : decode cc pc = .ok (.ldiv, 1)) (pc' : Nat) (hp : pc + 1 = pc') (hne : ¬ y = 0) (k : gx X cells slots ws pc' lv (.long (x / y) :: st)) : gx X cells slots ws pc lv (.long y :: .long x :: st) := by
  obtain ⟨p, l, e, R, s, m, args, below, meth, c, A, D, nL, Q⟩ := X
  subst hp
  exact fun H locs ls hP hD hS hl => lv_ldiv C.1 C.2.1 hdg hne (k H locs ls hP hD hS hl)
theorem g_dup (C : gx_C X cc own Ts tys N Rm) {v : Value} (hdg : decode cc pc = .ok (.dup, 1)) (pc' : Nat) (hp : pc + 1 = pc') (hc : v.category = 1) (k : gx X cells slots ws pc' lv (v :: v :: st)) : gx X cells slots ws pc lv (v :: st) := by
  obtain ⟨p, l, e, R, s, m, args, below, meth, c, A, D, nL, Q⟩ := X
  subst hp
  exact fun H locs ls hP hD hS hl => lv_dup C.1 C.2.1 hdg hc (k H locs ls hP hD hS hl)
theorem g_pop (C : gx_C X cc own Ts tys N Rm) {v : Value} (hdg : decode cc pc = .ok (.pop, 1)) (pc' : Nat) (hp : pc + 1 = pc') (hc : v.category = 1) (k : gx X cells slots ws pc' lv (st)) : gx X cells slots ws pc lv (v :: st) := by
  obtain ⟨p, l, e, R, s, m, args, below, meth, c, A, D, nL, Q⟩ := X
  subst hp
  exact fun H locs ls hP hD hS hl => lv_pop C.1 C.2.1 hdg hc (k H locs ls hP hD hS hl)
theorem g_dup_x1 (C : gx_C X cc own Ts tys N Rm) {v w : Value} (hdg : decode cc pc = .ok (.dup_x1, 1)) (pc' : Nat) (hp : pc + 1 = pc') (hc : v.category = 1) (hc2 : w.category = 1) (k : gx X cells slots ws pc' lv (v :: w :: v :: st)) : gx X cells slots ws pc lv (v :: w :: st) := by
  obtain ⟨p, l, e, R, s, m, args, below, meth, c, A, D, nL, Q⟩ := X
  subst hp
  exact fun H locs ls hP hD hS hl => lv_dup_x1 C.1 C.2.1 hdg hc hc2 (k H locs ls hP hD hS hl)
theorem g_dup2_11 (C : gx_C X cc own Ts tys N Rm) {v w : Value} (hdg : decode cc pc = .ok (.dup2, 1)) (pc' : Nat) (hp : pc + 1 = pc') (hc : v.category = 1) (hc2 : w.category = 1) (k : gx X cells slots ws pc' lv (v :: w :: v :: w :: st)) : gx X cells slots ws pc lv (v :: w :: st) := by
  obtain ⟨p, l, e, R, s, m, args, below, meth, c, A, D, nL, Q⟩ := X
  subst hp
  exact fun H locs ls hP hD hS hl => lv_dup2_11 C.1 C.2.1 hdg hc hc2 (k H locs ls hP hD hS hl)
theorem g_i2l (C : gx_C X cc own Ts tys N Rm) {x : Int32} {v : Int64} (hdg : decode cc pc = .ok (.i2l, 1)) (pc' : Nat) (hp : pc + 1 = pc') (hv : x.toInt64 = v) (k : gx X cells slots ws pc' lv (.long v :: st)) : gx X cells slots ws pc lv (.int x :: st) := by
  obtain ⟨p, l, e, R, s, m, args, below, meth, c, A, D, nL, Q⟩ := X
  subst hp
  exact fun H locs ls hP hD hS hl => lv_i2l C.1 C.2.1 hdg hv (k H locs ls hP hD hS hl)
theorem g_l2i (C : gx_C X cc own Ts tys N Rm) {x : Int64} {v : Int32} (hdg : decode cc pc = .ok (.l2i, 1)) (pc' : Nat) (hp : pc + 1 = pc') (hv : x.toInt32 = v) (k : gx X cells slots ws pc' lv (.int v :: st)) : gx X cells slots ws pc lv (.long x :: st) := by
  obtain ⟨p, l, e, R, s, m, args, below, meth, c, A, D, nL, Q⟩ := X
  subst hp
  exact fun H locs ls hP hD hS hl => lv_l2i C.1 C.2.1 hdg hv (k H locs ls hP hD hS hl)
end GXA
section GXB
variable {X : gxT} {cells slots : Nat} {ws : va_W} {pc : Nat} {lv : List (Nat × Value)} {st : List Value} {cc : ByteArray} {own : String} {Ts : List Cond} {tys : List (ClassId × FieldType)} {N : Nat} {Rm : Room}
theorem g_irem (C : gx_C X cc own Ts tys N Rm) {x y : Int32} (hdg : decode cc pc = .ok (.irem, 1)) (pc' : Nat) (hp : pc + 1 = pc') (hne : ¬ y = 0) (k : gx X cells slots ws pc' lv (.int (x - x / y * y) :: st)) : gx X cells slots ws pc lv (.int y :: .int x :: st) := by
  obtain ⟨p, l, e, R, s, m, args, below, meth, c, A, D, nL, Q⟩ := X
  subst hp
  exact fun H locs ls hP hD hS hl => lv_irem C.1 C.2.1 hdg hne (k H locs ls hP hD hS hl)
theorem g_ishl (C : gx_C X cc own Ts tys N Rm) {x y : Int32} (hdg : decode cc pc = .ok (.ishl, 1)) (pc' : Nat) (hp : pc + 1 = pc') (k : gx X cells slots ws pc' lv (.int (x <<< (y &&& 31)) :: st)) : gx X cells slots ws pc lv (.int y :: .int x :: st) := by
  obtain ⟨p, l, e, R, s, m, args, below, meth, c, A, D, nL, Q⟩ := X
  subst hp
  exact fun H locs ls hP hD hS hl => lv_ishl C.1 C.2.1 hdg (k H locs ls hP hD hS hl)
theorem g_ishr (C : gx_C X cc own Ts tys N Rm) {x y : Int32} (hdg : decode cc pc = .ok (.ishr, 1)) (pc' : Nat) (hp : pc + 1 = pc') (k : gx X cells slots ws pc' lv (.int (x >>> (y &&& 31)) :: st)) : gx X cells slots ws pc lv (.int y :: .int x :: st) := by
  obtain ⟨p, l, e, R, s, m, args, below, meth, c, A, D, nL, Q⟩ := X
  subst hp
  exact fun H locs ls hP hD hS hl => lv_ishr C.1 C.2.1 hdg (k H locs ls hP hD hS hl)
theorem g_lrem (C : gx_C X cc own Ts tys N Rm) {x y : Int64} (hdg : decode cc pc = .ok (.lrem, 1)) (pc' : Nat) (hp : pc + 1 = pc') (hne : ¬ y = 0) (k : gx X cells slots ws pc' lv (.long (x - x / y * y) :: st)) : gx X cells slots ws pc lv (.long y :: .long x :: st) := by
  obtain ⟨p, l, e, R, s, m, args, below, meth, c, A, D, nL, Q⟩ := X
  subst hp
  exact fun H locs ls hP hD hS hl => lv_lrem C.1 C.2.1 hdg hne (k H locs ls hP hD hS hl)
theorem g_lcmp (C : gx_C X cc own Ts tys N Rm) {x y : Int64} (hdg : decode cc pc = .ok (.lcmp, 1)) (pc' : Nat) (hp : pc + 1 = pc') (k : gx X cells slots ws pc' lv (.int (lg_cmp x y) :: st)) : gx X cells slots ws pc lv (.long y :: .long x :: st) := by
  obtain ⟨p, l, e, R, s, m, args, below, meth, c, A, D, nL, Q⟩ := X
  subst hp
  exact fun H locs ls hP hD hS hl => W.lcmp C.1 C.2.1 hdg (k H locs ls hP hD hS hl)
theorem g_lshl (C : gx_C X cc own Ts tys N Rm) {x v : Int64} {y : Int32} (hdg : decode cc pc = .ok (.lshl, 1)) (pc' : Nat) (hp : pc + 1 = pc') (hv : x <<< (y.toInt64 &&& 63) = v) (k : gx X cells slots ws pc' lv (.long v :: st)) : gx X cells slots ws pc lv (.int y :: .long x :: st) := by
  obtain ⟨p, l, e, R, s, m, args, below, meth, c, A, D, nL, Q⟩ := X
  subst hp
  exact fun H locs ls hP hD hS hl => lv_lshl C.1 C.2.1 hdg hv (k H locs ls hP hD hS hl)
theorem g_lxx (C : gx_C X cc own Ts tys N Rm) {x : Int64} (hdg : decode cc pc = .ok (.lneg, 1)) (pc' : Nat) (hp : pc + 1 = pc') (k : gx X cells slots ws pc' lv (.long (-x) :: st)) : gx X cells slots ws pc lv (.long x :: st) := by
  obtain ⟨p, l, e, R, s, m, args, below, meth, c, A, D, nL, Q⟩ := X
  subst hp
  exact fun H locs ls hP hD hS hl => lv_lneg C.1 C.2.1 hdg (k H locs ls hP hD hS hl)
theorem g_ineg (C : gx_C X cc own Ts tys N Rm) {x : Int32} (hdg : decode cc pc = .ok (.ineg, 1)) (pc' : Nat) (hp : pc + 1 = pc') (k : gx X cells slots ws pc' lv (.int (-x) :: st)) : gx X cells slots ws pc lv (.int x :: st) := by
  obtain ⟨p, l, e, R, s, m, args, below, meth, c, A, D, nL, Q⟩ := X
  subst hp
  exact fun H locs ls hP hD hS hl => lv_ineg C.1 C.2.1 hdg (k H locs ls hP hD hS hl)
theorem g_dup2_2 (C : gx_C X cc own Ts tys N Rm) {v : Value} (hdg : decode cc pc = .ok (.dup2, 1)) (pc' : Nat) (hp : pc + 1 = pc') (hc : v.category = 2) (k : gx X cells slots ws pc' lv (v :: v :: st)) : gx X cells slots ws pc lv (v :: st) := by
  obtain ⟨p, l, e, R, s, m, args, below, meth, c, A, D, nL, Q⟩ := X
  subst hp
  exact fun H locs ls hP hD hS hl => lv_dup2_2 C.1 C.2.1 hdg hc (k H locs ls hP hD hS hl)
theorem g_dup_x2 (C : gx_C X cc own Ts tys N Rm) {v w u : Value} (hdg : decode cc pc = .ok (.dup_x2, 1)) (pc' : Nat) (hp : pc + 1 = pc') (hc : v.category = 1) (hc2 : w.category = 1) (hc3 : u.category = 1) (k : gx X cells slots ws pc' lv (v :: w :: u :: v :: st)) : gx X cells slots ws pc lv (v :: w :: u :: st) := by
  obtain ⟨p, l, e, R, s, m, args, below, meth, c, A, D, nL, Q⟩ := X
  subst hp
  exact fun H locs ls hP hD hS hl => lv_dup_x2 C.1 C.2.1 hdg hc hc2 hc3 (k H locs ls hP hD hS hl)
theorem g_icmp_eq (C : gx_C X cc own Ts tys N Rm) {x y : Int32} {off : Int} (hdg : decode cc pc = .ok (.if_icmp .eq off, 3)) (tgt pc' : Nat) (ht : (pc : Int) + off = (tgt : Int)) (hp : pc + 3 = pc') (kt : (x = y) → gx X cells slots ws tgt lv st) (kf : ¬ (x = y) → gx X cells slots ws pc' lv st) : gx X cells slots ws pc lv (.int y :: .int x :: st) := by
  obtain ⟨p, l, e, R, s, m, args, below, meth, c, A, D, nL, Q⟩ := X
  subst hp
  exact fun H locs ls hP hD hS hl => lv_icmp_eq C.1 C.2.1 hdg ht (fun h => kt h H locs ls hP hD hS hl) (fun h => kf h H locs ls hP hD hS hl)
theorem g_if_eq (C : gx_C X cc own Ts tys N Rm) {x : Int32} {off : Int} (hdg : decode cc pc = .ok (.ifCond .eq off, 3)) (tgt pc' : Nat) (ht : (pc : Int) + off = (tgt : Int)) (hp : pc + 3 = pc') (kt : (x = 0) → gx X cells slots ws tgt lv st) (kf : ¬ (x = 0) → gx X cells slots ws pc' lv st) : gx X cells slots ws pc lv (.int x :: st) := by
  obtain ⟨p, l, e, R, s, m, args, below, meth, c, A, D, nL, Q⟩ := X
  subst hp
  exact fun H locs ls hP hD hS hl => lv_if_eq C.1 C.2.1 hdg ht (fun h => kt h H locs ls hP hD hS hl) (fun h => kf h H locs ls hP hD hS hl)
theorem g_icmp_ne (C : gx_C X cc own Ts tys N Rm) {x y : Int32} {off : Int} (hdg : decode cc pc = .ok (.if_icmp .ne off, 3)) (tgt pc' : Nat) (ht : (pc : Int) + off = (tgt : Int)) (hp : pc + 3 = pc') (kt : (¬ x = y) → gx X cells slots ws tgt lv st) (kf : x = y → gx X cells slots ws pc' lv st) : gx X cells slots ws pc lv (.int y :: .int x :: st) := by
  obtain ⟨p, l, e, R, s, m, args, below, meth, c, A, D, nL, Q⟩ := X
  subst hp
  exact fun H locs ls hP hD hS hl => lv_icmp_ne C.1 C.2.1 hdg ht (fun h => kt h H locs ls hP hD hS hl) (fun h => kf h H locs ls hP hD hS hl)
theorem g_if_ne (C : gx_C X cc own Ts tys N Rm) {x : Int32} {off : Int} (hdg : decode cc pc = .ok (.ifCond .ne off, 3)) (tgt pc' : Nat) (ht : (pc : Int) + off = (tgt : Int)) (hp : pc + 3 = pc') (kt : (¬ x = 0) → gx X cells slots ws tgt lv st) (kf : x = 0 → gx X cells slots ws pc' lv st) : gx X cells slots ws pc lv (.int x :: st) := by
  obtain ⟨p, l, e, R, s, m, args, below, meth, c, A, D, nL, Q⟩ := X
  subst hp
  exact fun H locs ls hP hD hS hl => lv_if_ne C.1 C.2.1 hdg ht (fun h => kt h H locs ls hP hD hS hl) (fun h => kf h H locs ls hP hD hS hl)
theorem g_icmp_lt (C : gx_C X cc own Ts tys N Rm) {x y : Int32} {off : Int} (hdg : decode cc pc = .ok (.if_icmp .lt off, 3)) (tgt pc' : Nat) (ht : (pc : Int) + off = (tgt : Int)) (hp : pc + 3 = pc') (kt : (x < y) → gx X cells slots ws tgt lv st) (kf : ¬ (x < y) → gx X cells slots ws pc' lv st) : gx X cells slots ws pc lv (.int y :: .int x :: st) := by
  obtain ⟨p, l, e, R, s, m, args, below, meth, c, A, D, nL, Q⟩ := X
  subst hp
  exact fun H locs ls hP hD hS hl => lv_icmp_lt C.1 C.2.1 hdg ht (fun h => kt h H locs ls hP hD hS hl) (fun h => kf h H locs ls hP hD hS hl)
theorem g_if_lt (C : gx_C X cc own Ts tys N Rm) {x : Int32} {off : Int} (hdg : decode cc pc = .ok (.ifCond .lt off, 3)) (tgt pc' : Nat) (ht : (pc : Int) + off = (tgt : Int)) (hp : pc + 3 = pc') (kt : (x < 0) → gx X cells slots ws tgt lv st) (kf : ¬ (x < 0) → gx X cells slots ws pc' lv st) : gx X cells slots ws pc lv (.int x :: st) := by
  obtain ⟨p, l, e, R, s, m, args, below, meth, c, A, D, nL, Q⟩ := X
  subst hp
  exact fun H locs ls hP hD hS hl => lv_if_lt C.1 C.2.1 hdg ht (fun h => kt h H locs ls hP hD hS hl) (fun h => kf h H locs ls hP hD hS hl)
theorem g_icmp_ge (C : gx_C X cc own Ts tys N Rm) {x y : Int32} {off : Int} (hdg : decode cc pc = .ok (.if_icmp .ge off, 3)) (tgt pc' : Nat) (ht : (pc : Int) + off = (tgt : Int)) (hp : pc + 3 = pc') (kt : (y ≤ x) → gx X cells slots ws tgt lv st) (kf : ¬ (y ≤ x) → gx X cells slots ws pc' lv st) : gx X cells slots ws pc lv (.int y :: .int x :: st) := by
  obtain ⟨p, l, e, R, s, m, args, below, meth, c, A, D, nL, Q⟩ := X
  subst hp
  exact fun H locs ls hP hD hS hl => lv_icmp_ge C.1 C.2.1 hdg ht (fun h => kt h H locs ls hP hD hS hl) (fun h => kf h H locs ls hP hD hS hl)
theorem g_if_ge (C : gx_C X cc own Ts tys N Rm) {x : Int32} {off : Int} (hdg : decode cc pc = .ok (.ifCond .ge off, 3)) (tgt pc' : Nat) (ht : (pc : Int) + off = (tgt : Int)) (hp : pc + 3 = pc') (kt : (0 ≤ x) → gx X cells slots ws tgt lv st) (kf : ¬ (0 ≤ x) → gx X cells slots ws pc' lv st) : gx X cells slots ws pc lv (.int x :: st) := by
  obtain ⟨p, l, e, R, s, m, args, below, meth, c, A, D, nL, Q⟩ := X
  subst hp
  exact fun H locs ls hP hD hS hl => lv_if_ge C.1 C.2.1 hdg ht (fun h => kt h H locs ls hP hD hS hl) (fun h => kf h H locs ls hP hD hS hl)
theorem g_icmp_gt (C : gx_C X cc own Ts tys N Rm) {x y : Int32} {off : Int} (hdg : decode cc pc = .ok (.if_icmp .gt off, 3)) (tgt pc' : Nat) (ht : (pc : Int) + off = (tgt : Int)) (hp : pc + 3 = pc') (kt : (y < x) → gx X cells slots ws tgt lv st) (kf : ¬ (y < x) → gx X cells slots ws pc' lv st) : gx X cells slots ws pc lv (.int y :: .int x :: st) := by
  obtain ⟨p, l, e, R, s, m, args, below, meth, c, A, D, nL, Q⟩ := X
  subst hp
  exact fun H locs ls hP hD hS hl => lv_icmp_gt C.1 C.2.1 hdg ht (fun h => kt h H locs ls hP hD hS hl) (fun h => kf h H locs ls hP hD hS hl)
theorem g_if_gt (C : gx_C X cc own Ts tys N Rm) {x : Int32} {off : Int} (hdg : decode cc pc = .ok (.ifCond .gt off, 3)) (tgt pc' : Nat) (ht : (pc : Int) + off = (tgt : Int)) (hp : pc + 3 = pc') (kt : (0 < x) → gx X cells slots ws tgt lv st) (kf : ¬ (0 < x) → gx X cells slots ws pc' lv st) : gx X cells slots ws pc lv (.int x :: st) := by
  obtain ⟨p, l, e, R, s, m, args, below, meth, c, A, D, nL, Q⟩ := X
  subst hp
  exact fun H locs ls hP hD hS hl => lv_if_gt C.1 C.2.1 hdg ht (fun h => kt h H locs ls hP hD hS hl) (fun h => kf h H locs ls hP hD hS hl)
theorem g_icmp_le (C : gx_C X cc own Ts tys N Rm) {x y : Int32} {off : Int} (hdg : decode cc pc = .ok (.if_icmp .le off, 3)) (tgt pc' : Nat) (ht : (pc : Int) + off = (tgt : Int)) (hp : pc + 3 = pc') (kt : (x ≤ y) → gx X cells slots ws tgt lv st) (kf : ¬ (x ≤ y) → gx X cells slots ws pc' lv st) : gx X cells slots ws pc lv (.int y :: .int x :: st) := by
  obtain ⟨p, l, e, R, s, m, args, below, meth, c, A, D, nL, Q⟩ := X
  subst hp
  exact fun H locs ls hP hD hS hl => lv_icmp_le C.1 C.2.1 hdg ht (fun h => kt h H locs ls hP hD hS hl) (fun h => kf h H locs ls hP hD hS hl)
theorem g_if_le (C : gx_C X cc own Ts tys N Rm) {x : Int32} {off : Int} (hdg : decode cc pc = .ok (.ifCond .le off, 3)) (tgt pc' : Nat) (ht : (pc : Int) + off = (tgt : Int)) (hp : pc + 3 = pc') (kt : (x ≤ 0) → gx X cells slots ws tgt lv st) (kf : ¬ (x ≤ 0) → gx X cells slots ws pc' lv st) : gx X cells slots ws pc lv (.int x :: st) := by
  obtain ⟨p, l, e, R, s, m, args, below, meth, c, A, D, nL, Q⟩ := X
  subst hp
  exact fun H locs ls hP hD hS hl => lv_if_le C.1 C.2.1 hdg ht (fun h => kt h H locs ls hP hD hS hl) (fun h => kf h H locs ls hP hD hS hl)
theorem g_goto (C : gx_C X cc own Ts tys N Rm) {off : Int} (hdg : decode cc pc = .ok (.goto off, 3)) (tgt : Nat) (ht : (pc : Int) + off = (tgt : Int)) (k : gx X cells slots ws tgt lv st) : gx X cells slots ws pc lv st := by
  obtain ⟨p, l, e, R, s, m, args, below, meth, c, A, D, nL, Q⟩ := X
  exact fun H locs ls hP hD hS hl => lv_goto C.1 C.2.1 hdg ht (k H locs ls hP hD hS hl)
end GXB
end
section
/-! the world of a contract, before and behind -/
abbrev pW (D : va_G) (tys : List (ClassId × FieldType)) (WS : va_W) (XP : State → Prop) (sz : Nat) : State → Prop := fun U => U.heap.size = sz ∧ va_P D vwCl WS U.heap ∧ va_K D vwCl tys U ∧ va_D (fun _ => True) WS ∧ XP U
abbrev qW {S : Type} (D : va_G) (tys : List (ClassId × FieldType)) (A : Nat → Prop) (W1 : S → va_W) : S → State → Prop := fun u t => va_P D vwCl (W1 u) t.heap ∧ va_K D vwCl tys t ∧ va_D A (W1 u)
def gx_l (X : gxT) : Launch := X.2.1
def gx_s (X : gxT) : State := X.2.2.2.2.1
def gx_D (X : gxT) : va_G := X.2.2.2.2.2.2.2.2.2.2.2.1
def gx_A (X : gxT) : Nat → Prop := X.2.2.2.2.2.2.2.2.2.2.1
def gx_init (X : gxT) : Prop := X.2.2.2.2.2.2.2.2.1.name = "<init>"
/-- what a body owes at its end -/
def gx_Q (X : gxT) (ret : Option FieldType) (Qc : Array Value → State → Outcome → State → Prop) (mc ms : Nat) : Prop :=
  match X with
  | (_, _, _, _, s, _, args, below, meth, _, A, _, _, Q) => meth.sig.returnType = ret ∧ meth.locks = false ∧ Q = MQ below Qc args s mc ms A
/-- a contract out of a walk of the body -/
theorem gx_met {l : Launch} {y : MethodName} {Ts ws' : List Cond} {rm : Room} {av : List Value} {D : va_G} {tys : List (ClassId × FieldType)} {WS : va_W} {XP : State → Prop} {sz : Nat} {Qc : Array Value → State → Outcome → State → Prop} {mc ms : Nat} {cc : ByteArray} {maxL : Nat} {ret : Option FieldType} (own : String) (ho : y.cls = own) (hy : plainName y.cls = true) (hw : Ts = Cond.code y cc maxL ret :: ws') (hlen : (lg_sl av).length ≤ maxL)
    (body : ∀ X : gxT, gx_l X = l → gx_D X = D → gx_A X = va_A WS sz → gx_C X cc own Ts tys maxL rm → gx_Q X ret Qc mc ms → XP (gx_s X) → (gx_s X).heap.size = sz → (y.name = "<init>" → gx_init X) → gx X 0 0 WS 0 (lv_args 0 av) []) :
    Met l y Ts rm (va_Pc av (pW D tys WS XP sz)) Qc mc ms (va_A WS sz) := by
  refine Met.ofW (cc := cc) (maxL := maxL) (ret := ret) hy hw ?_
  intro p e s m args below meth c s₁ B hml hv
  obtain ⟨rfl, hsz, hP, hK, hD0, hX⟩ := hv
  subst hsz
  have hown : s.vm.findClass own = some m.cls := by rw [← ho]; exact findClass_of_methodNamed B.named
  have hin : y.name = "<init>" → meth.name = "<init>" := fun h => by rw [← h]; exact (name_of_methodNamed B.named B.method).1
  have hl := lv_entry av (n := maxL) hlen
  rw [lg_entry_eq]
  exact body (p, l, e, (headSpec Ts rm).room, s, m, av.toArray, below, meth, c, va_A WS s.heap.size, D, maxL, MQ below Qc av.toArray s mc ms (va_A WS s.heap.size)) rfl rfl rfl
    ⟨B.exec, B.bytes, hml, hown, atoms_spec (ws := Ts) B.pre, hK, fun q h => Or.inr h, rfl, rfl⟩ ⟨B.returns, B.notSynchronized, rfl⟩ hX rfl hin _ _ _ hP (hD0.self (sz := s.heap.size)) va_S.rf hl

section GXR
variable {X : gxT} {cells slots : Nat} {ws : va_W} {pc : Nat} {lv : List (Nat × Value)} {st : List Value} {cc : ByteArray} {own : String} {Ts : List Cond} {tys : List (ClassId × FieldType)} {N : Nat} {Rm : Room}
theorem g_iret {S : Type} {post : Int32 → S → Prop} {W1 : S → va_W} {mc ms : Nat} {v : Int32} (C : gx_C X cc own Ts tys N Rm) (hQ : gx_Q X (some .int) (va_Qi post (qW (gx_D X) tys (gx_A X) W1) (gx_A X)) mc ms) (hc : cells ≤ mc) (hs : slots ≤ ms) (hdg : decode cc pc = .ok (.ireturn, 1)) (u : S) (hu : post v u) (hw : ws = W1 u) : gx X cells slots ws pc lv [.int v] := by
  obtain ⟨p, l, e, R, s, m, args, below, meth, c, A, D, nL, Q⟩ := X
  obtain ⟨hr, hlocks, hQe⟩ := hQ
  have hQe : Q = MQ below (va_Qi post (qW D tys A W1) A) args s mc ms A := hQe
  subst hQe
  subst hw
  refine g_widen hc hs ?_
  intro H locs ls hP hD hS hl
  exact W.iret (v := v) C.1 C.2.1 hr (fun t ht hW => ⟨⟨v, u, rfl, hu, by rw [ht]; exact hP, va_K.moved hW.alike C.2.2.2.2.2.1, hD⟩, hS.F ht⟩) hS.2.2 hdg
theorem g_lret {S : Type} {post : Int64 → S → Prop} {W1 : S → va_W} {mc ms : Nat} {v : Int64} (C : gx_C X cc own Ts tys N Rm) (hQ : gx_Q X (some .long) (va_Ql post (qW (gx_D X) tys (gx_A X) W1) (gx_A X)) mc ms) (hc : cells ≤ mc) (hs : slots ≤ ms) (hdg : decode cc pc = .ok (.lreturn, 1)) (u : S) (hu : post v u) (hw : ws = W1 u) : gx X cells slots ws pc lv [.long v] := by
  obtain ⟨p, l, e, R, s, m, args, below, meth, c, A, D, nL, Q⟩ := X
  obtain ⟨hr, hlocks, hQe⟩ := hQ
  have hQe : Q = MQ below (va_Ql post (qW D tys A W1) A) args s mc ms A := hQe
  subst hQe
  subst hw
  refine g_widen hc hs ?_
  intro H locs ls hP hD hS hl
  exact W.lret (v := v) C.1 C.2.1 hr (fun t ht hW => ⟨⟨v, u, rfl, hu, by rw [ht]; exact hP, va_K.moved hW.alike C.2.2.2.2.2.1, hD⟩, hS.F ht⟩) hS.2.2 hdg
theorem g_zret {S : Type} {post : Int32 → S → Prop} {W1 : S → va_W} {mc ms : Nat} {v : Int32} (C : gx_C X cc own Ts tys N Rm) (hQ : gx_Q X (some .boolean) (va_Qi post (qW (gx_D X) tys (gx_A X) W1) (gx_A X)) mc ms) (hc : cells ≤ mc) (hs : slots ≤ ms) (hdg : decode cc pc = .ok (.ireturn, 1)) (hn : narrow .boolean (.int v) = .int v) (u : S) (hu : post v u) (hw : ws = W1 u) : gx X cells slots ws pc lv [.int v] := by
  obtain ⟨p, l, e, R, s, m, args, below, meth, c, A, D, nL, Q⟩ := X
  obtain ⟨hr, hlocks, hQe⟩ := hQ
  have hQe : Q = MQ below (va_Qi post (qW D tys A W1) A) args s mc ms A := hQe
  subst hQe
  subst hw
  refine g_widen hc hs ?_
  intro H locs ls hP hD hS hl
  exact W.zret (v := v) C.1 C.2.1 hr hn (fun t ht hW => ⟨⟨v, u, rfl, hu, by rw [ht]; exact hP, va_K.moved hW.alike C.2.2.2.2.2.1, hD⟩, hS.F ht⟩) hS.2.2 hdg
theorem g_vret {S : Type} {post : S → Prop} {W1 : S → va_W} {mc ms : Nat} (C : gx_C X cc own Ts tys N Rm) (hQ : gx_Q X none (va_Qv post (qW (gx_D X) tys (gx_A X) W1) (gx_A X)) mc ms) (hc : cells ≤ mc) (hs : slots ≤ ms) (hdg : decode cc pc = .ok (.return_, 1)) (u : S) (hu : post u) (hw : ws = W1 u) : gx X cells slots ws pc lv [] := by
  obtain ⟨p, l, e, R, s, m, args, below, meth, c, A, D, nL, Q⟩ := X
  obtain ⟨hr, hlocks, hQe⟩ := hQ
  have hQe : Q = MQ below (va_Qv post (qW D tys A W1) A) args s mc ms A := hQe
  subst hQe
  subst hw
  refine g_widen hc hs ?_
  intro H locs ls hP hD hS hl
  exact W.vret C.1 C.2.1 hr (fun t ht hW => ⟨⟨u, rfl, hu, by rw [ht]; exact hP, va_K.moved hW.alike C.2.2.2.2.2.1, hD⟩, hS.F ht⟩) hS.2.2 hdg
/-- a field of an object -/
theorem g_get (C : gx_C X cc own Ts tys N Rm) {ref Cn : String} {T : u_T} {n ci index a : Nat} {fs : List Value} {v : Value} (hin : ∀ w ∈ u_ws Cn T n, w ∈ Ts) (q0 : Nat) (he : ws[q0]? = some (a, .inr (ci, fs))) (hc : vwCl[ci]? = some (Cn, T, n)) (k0 : Nat) (hk : k0 < n) (hlink : Cond.fieldLink own index ref (T k0).2.1 (T k0).2.2.1 ∈ Ts) (hsame : (T k0).1 = ref) (hv : fs[k0]? = some v) (hdg : decode cc pc = .ok (.getfield index, 3)) (pc' : Nat) (hp : pc + 3 = pc') (k : gx X cells slots ws pc' lv (v :: st)) : gx X cells slots ws pc lv (.ref a :: st) := by
  obtain ⟨p, l, e, R, s, m, args, below, meth, c, A, D, nL, Q⟩ := X
  subst hp
  exact fun H locs ls hP hD hS hl => va_get C.1 C.2.1 C.2.2.2.2.1 hin C.2.2.2.1 C.2.2.2.2.2.1 hP q0 he hc k0 hk (C.2.2.2.2.1 _ hlink) (fun x h => by rw [← hsame]; exact h) hv hdg (k H locs ls hP hD hS hl)
theorem g_put (C : gx_C X cc own Ts tys N Rm) {ref Cn : String} {T : u_T} {n ci index a : Nat} {fs : List Value} {v : Value} {ty : FieldType} (hin : ∀ w ∈ u_ws Cn T n, w ∈ Ts) (ty0 : Nat → FieldType) (hty : ∀ k, k < n → parseFieldDescriptor (T k).2.2.1 = some (ty0 k)) (hnm : ∀ a, a < n → ∀ b, b < n → a ≠ b → (T a).2.1 ≠ (T b).2.1) (q0 : Nat) (he : ws[q0]? = some (a, .inr (ci, fs))) (hc : vwCl[ci]? = some (Cn, T, n)) (k0 : Nat) (hk : k0 < n) (hlink : Cond.fieldLink own index ref (T k0).2.1 (T k0).2.2.1 ∈ Ts) (hsame : (T k0).1 = ref) (hfin : (T k0).2.2.2 = false) (hd : parseFieldDescriptor (T k0).2.2.1 = some ty) (hn : narrow ty v = v) (hfit : fits ty v = true) (hl : k0 < fs.length) (hdg : decode cc pc = .ok (.putfield index, 3)) (pc' : Nat) (hp : pc + 3 = pc') {ws' : va_W} (hw : ws.set q0 (a, .inr (ci, fs.set k0 v)) = ws') (k : gx X cells slots ws' pc' lv st) : gx X cells slots ws pc lv (v :: .ref a :: st) := by
  obtain ⟨p, l, e, R, s, m, args, below, meth, c, A, D, nL, Q⟩ := X
  subst hp
  subst hw
  exact fun H locs ls hP hD hS hl9 => va_put C.1 C.2.1 C.2.2.2.2.1 hin ty0 hty hnm C.2.2.2.1 C.2.2.2.2.2.1 hP hD hS q0 he hc k0 hk (C.2.2.2.2.1 _ hlink) (fun x h => by rw [← hsame]; exact h) hfin hd hn hfit hl hdg (fun H1 locs1 hP hD hS => k H1 locs1 ls hP hD hS hl9)
theorem g_putF (C : gx_C X cc own Ts tys N Rm) {ref Cn : String} {T : u_T} {n ci index a : Nat} {fs : List Value} {v : Value} {ty : FieldType} (hI : gx_init X) (hin : ∀ w ∈ u_ws Cn T n, w ∈ Ts) (ty0 : Nat → FieldType) (hty : ∀ k, k < n → parseFieldDescriptor (T k).2.2.1 = some (ty0 k)) (hnm : ∀ a, a < n → ∀ b, b < n → a ≠ b → (T a).2.1 ≠ (T b).2.1) (q0 : Nat) (he : ws[q0]? = some (a, .inr (ci, fs))) (hc : vwCl[ci]? = some (Cn, T, n)) (k0 : Nat) (hk : k0 < n) (hlink : Cond.fieldLink own index ref (T k0).2.1 (T k0).2.2.1 ∈ Ts) (hsame : (T k0).1 = ref) (hfin : (T k0).2.2.2 = true) (hdecl : (T k0).1 = own) (hd : parseFieldDescriptor (T k0).2.2.1 = some ty) (hn : narrow ty v = v) (hfit : fits ty v = true) (hl : k0 < fs.length) (hdg : decode cc pc = .ok (.putfield index, 3)) (pc' : Nat) (hp : pc + 3 = pc') {ws' : va_W} (hw : ws.set q0 (a, .inr (ci, fs.set k0 v)) = ws') (k : gx X cells slots ws' pc' lv st) : gx X cells slots ws pc lv (v :: .ref a :: st) := by
  obtain ⟨p, l, e, R, s, m, args, below, meth, c, A, D, nL, Q⟩ := X
  subst hp
  subst hw
  exact fun H locs ls hP hD hS hl9 => va_putF C.1 C.2.1 C.2.2.2.2.1 hin ty0 hty hnm C.2.2.2.1 C.2.2.2.2.2.1 hP hD hS q0 he hc k0 hk (C.2.2.2.2.1 _ hlink) (fun x h => by rw [← hsame]; exact h) hfin hI hdecl hd hn hfit hl hdg (fun H1 locs1 hP hD hS => k H1 locs1 ls hP hD hS hl9)
theorem g_iald (C : gx_C X cc own Ts tys N Rm) (q0 t0 : Nat) {cA : ClassId} {a n : Nat} {f : Nat → Int32} (ha : ws[q0]? = some (a, .inl (cA, n, .inl f))) (ht : tys[t0]? = some (cA, .int)) {i : Int32} (j : Nat) (hi : i = nI j) (hj : j < n) (hn : n < 2 ^ 31) (hdg : decode cc pc = .ok (.iaload, 1)) (pc' : Nat) (hp : pc + 1 = pc') (k : gx X cells slots ws pc' lv (.int (f j) :: st)) : gx X cells slots ws pc lv (.int i :: .ref a :: st) := by
  obtain ⟨p, l, e, R, s, m, args, below, meth, c, A, D, nL, Q⟩ := X
  subst hp
  subst hi
  refine fun H locs ls hP hD hS hl => va_iald C.1 C.2.1 C.2.2.2.2.2.1 hP q0 t0 ha ht (vp_in_nI hj hn) hdg ?_
  rw [nI_clamp (Nat.lt_trans hj hn)]
  exact k H locs ls hP hD hS hl
theorem g_lald (C : gx_C X cc own Ts tys N Rm) (q0 t0 : Nat) {cA : ClassId} {a n : Nat} {f : Nat → Int64} (ha : ws[q0]? = some (a, .inl (cA, n, .inr (.inl f)))) (ht : tys[t0]? = some (cA, .long)) {i : Int32} (j : Nat) (hi : i = nI j) (hj : j < n) (hn : n < 2 ^ 31) (hdg : decode cc pc = .ok (.laload, 1)) (pc' : Nat) (hp : pc + 1 = pc') (k : gx X cells slots ws pc' lv (.long (f j) :: st)) : gx X cells slots ws pc lv (.int i :: .ref a :: st) := by
  obtain ⟨p, l, e, R, s, m, args, below, meth, c, A, D, nL, Q⟩ := X
  subst hp
  subst hi
  refine fun H locs ls hP hD hS hl => va_lald C.1 C.2.1 C.2.2.2.2.2.1 hP q0 t0 ha ht (vp_in_nI hj hn) hdg ?_
  rw [nI_clamp (Nat.lt_trans hj hn)]
  exact k H locs ls hP hD hS hl
theorem g_zald (C : gx_C X cc own Ts tys N Rm) (q0 t0 : Nat) {cA : ClassId} {a n : Nat} {f : Nat → Int32} (ha : ws[q0]? = some (a, .inl (cA, n, .inl f))) (ht : tys[t0]? = some (cA, .boolean)) {i : Int32} (j : Nat) (hi : i = nI j) (hj : j < n) (hn : n < 2 ^ 31) (hdg : decode cc pc = .ok (.baload, 1)) (pc' : Nat) (hp : pc + 1 = pc') (k : gx X cells slots ws pc' lv (.int (f j) :: st)) : gx X cells slots ws pc lv (.int i :: .ref a :: st) := by
  obtain ⟨p, l, e, R, s, m, args, below, meth, c, A, D, nL, Q⟩ := X
  subst hp
  subst hi
  refine fun H locs ls hP hD hS hl => va_zald C.1 C.2.1 C.2.2.2.2.2.1 hP q0 t0 ha ht (vp_in_nI hj hn) hdg ?_
  rw [nI_clamp (Nat.lt_trans hj hn)]
  exact k H locs ls hP hD hS hl
theorem g_bald (C : gx_C X cc own Ts tys N Rm) (q0 t0 : Nat) {cA : ClassId} {a n : Nat} {f : Nat → Int32} (ha : ws[q0]? = some (a, .inl (cA, n, .inl f))) (ht : tys[t0]? = some (cA, .byte)) {i : Int32} (j : Nat) (hi : i = nI j) (hj : j < n) (hn : n < 2 ^ 31) (hdg : decode cc pc = .ok (.baload, 1)) (pc' : Nat) (hp : pc + 1 = pc') (k : gx X cells slots ws pc' lv (.int (f j) :: st)) : gx X cells slots ws pc lv (.int i :: .ref a :: st) := by
  obtain ⟨p, l, e, R, s, m, args, below, meth, c, A, D, nL, Q⟩ := X
  subst hp
  subst hi
  refine fun H locs ls hP hD hS hl => va_bald C.1 C.2.1 C.2.2.2.2.2.1 hP q0 t0 ha ht (vp_in_nI hj hn) hdg ?_
  rw [nI_clamp (Nat.lt_trans hj hn)]
  exact k H locs ls hP hD hS hl
theorem g_iast (C : gx_C X cc own Ts tys N Rm) (q0 t0 : Nat) {cA : ClassId} {a n : Nat} {f : Nat → Int32} (ha : ws[q0]? = some (a, .inl (cA, n, .inl f))) (ht : tys[t0]? = some (cA, .int)) {i : Int32} {x : Int32} (j : Nat) (hi : i = nI j) (hj : j < n) (hn : n < 2 ^ 31) (hdg : decode cc pc = .ok (.iastore, 1)) (pc' : Nat) (hp : pc + 1 = pc') {ws' : va_W} (hw : ws.set q0 (a, .inl (cA, n, .inl (upd f j x))) = ws') (k : gx X cells slots ws' pc' lv st) : gx X cells slots ws pc lv (.int x :: .int i :: .ref a :: st) := by
  obtain ⟨p, l, e, R, s, m, args, below, meth, c, A, D, nL, Q⟩ := X
  subst hp
  subst hi
  subst hw
  refine fun H locs ls hP hD hS hl => va_iast C.1 C.2.1 C.2.2.2.2.2.1 hP hD hS q0 t0 ha ht (vp_in_nI hj hn) hdg (fun H1 locs1 hP hD hS => ?_)
  rw [nI_clamp (Nat.lt_trans hj hn)] at hP hD
  exact k H1 locs1 ls hP hD hS hl
theorem g_last (C : gx_C X cc own Ts tys N Rm) (q0 t0 : Nat) {cA : ClassId} {a n : Nat} {f : Nat → Int64} (ha : ws[q0]? = some (a, .inl (cA, n, .inr (.inl f)))) (ht : tys[t0]? = some (cA, .long)) {i : Int32} {x : Int64} (j : Nat) (hi : i = nI j) (hj : j < n) (hn : n < 2 ^ 31) (hdg : decode cc pc = .ok (.lastore, 1)) (pc' : Nat) (hp : pc + 1 = pc') {ws' : va_W} (hw : ws.set q0 (a, .inl (cA, n, .inr (.inl (vp_updL f j x)))) = ws') (k : gx X cells slots ws' pc' lv st) : gx X cells slots ws pc lv (.long x :: .int i :: .ref a :: st) := by
  obtain ⟨p, l, e, R, s, m, args, below, meth, c, A, D, nL, Q⟩ := X
  subst hp
  subst hi
  subst hw
  refine fun H locs ls hP hD hS hl => va_last C.1 C.2.1 C.2.2.2.2.2.1 hP hD hS q0 t0 ha ht (vp_in_nI hj hn) hdg (fun H1 locs1 hP hD hS => ?_)
  rw [nI_clamp (Nat.lt_trans hj hn)] at hP hD
  exact k H1 locs1 ls hP hD hS hl
end GXR
end
section
theorem fm_of_map {α β : Type} {f : α → Option β} {is : List α} {w : List β} (h : is.map f = w.map some) : is.filterMap f = w := by
  have e : is.filterMap f = (is.map f).filterMap id := by rw [List.filterMap_map]; rfl
  rw [e, h, List.filterMap_map]
  show List.filterMap (fun x => some x) w = w
  exact List.filterMap_some
/-- what the callee's own premise needs of the caller's state -/
def gx_XP (X : gxT) (XP : State → Prop) : Prop := (∀ (a : Array Value) (U : State) (g : JFrame) (mk : MethodId), XP U → XP (U.calling g mk a)) ∧ ∀ (H : Heap) (locs : List Loc) (U : State), va_S (gx_A X) (gx_s X).heap H locs → U.heap = H → (gx_s X).WarmedH U.vm → XP U
theorem gx_XP0 {X : gxT} : gx_XP X (fun _ => True) := ⟨fun _ _ _ _ h => h, fun _ _ _ _ _ _ => trivial⟩
/-- calls of a nest mate's private methods: their links -/
def nst (nw : List (String × Nat × MethodName × String)) (U : State) : Prop := ∀ q ∈ nw, va_Nw (.methodLinkNest q.1 q.2.1 q.2.2.1 q.2.2.2) U
theorem gx_nst {X : gxT} {nw nw' : List (String × Nat × MethodName × String)} (h : nst nw (gx_s X)) (hs : ∀ q ∈ nw', q ∈ nw) : gx_XP X (nst nw') :=
  ⟨fun _ _ _ _ h q hq => h q hq, fun _ _ _ _ _ hW q hq => va_Nw.warmM hW (h q (hs q hq))⟩
section GXC
variable {X : gxT} {cells slots : Nat} {ws : va_W} {pc : Nat} {lv : List (Nat × Value)} {st : List Value} {cc : ByteArray} {own : String} {Ts : List Cond} {tys : List (ClassId × FieldType)} {N : Nat} {Rm : Room}
theorem g_callVi {S : Type} (C : gx_C X cc own Ts tys N Rm) {y : MethodName} {wsY wsY' : List Cond} {rm : Room} {As rest : List Value} {WC : va_W} {W1 : S → va_W} {XP : State → Prop} {post : Int32 → S → Prop} {mc ms index maxL : Nat} {bytes : ByteArray} {b : Nat} {Cn : String} {Tn : u_T} {Nn ci q0 : Nat} {fs : List Value} {ret : Option FieldType}
    (hM : ∀ sz, Met (gx_l X) y wsY rm (va_Pc (.ref b :: As) (pW (gx_D X) tys WC XP sz)) (va_Qi post (qW (gx_D X) tys (va_A WC sz) W1) (va_A WC sz)) mc ms (va_A WC sz)) (hXP : gx_XP X XP)
    (n : Nat) (hg : GoodIn Ts (wsV own index Cn y wsY)) (hw : wsY = Cond.code y bytes maxL ret :: wsY') (hrc : rm.cells = mc) (hrs : rm.slots = ms) (hd : y.cls = Cn ∧ y.cls ≠ "java/lang/invoke/MethodHandle" ∧ y.cls ≠ "java/lang/invoke/VarHandle" ∧ (parseMethodDescriptor y.desc).map (fun d => d.parameters.length) = some n) (hR : rm.frames + 1 ≤ Rm.frames ∧ 8 + (maxL + 11) + rm.locals ≤ Rm.locals)
    (hci : vwCl[ci]? = some (Cn, Tn, Nn)) (hq0 : WC[q0]? = some (b, .inr (ci, fs))) (isC isR perm : List Nat) {wr : va_W} {ws' : S → va_W} (hC : isC.map (fun i => ws[i]?) = WC.map some) (hcn : va_nd isC = true) (hRr : isR.map (fun i => ws[i]?) = wr.map some) (hnd : va_nd isR = true) (hdis : ∀ i ∈ isR, i ∉ isC) (hperm : ∀ u, perm.map (fun i => (wr ++ W1 u)[i]?) = (ws' u).map some) (hpn : va_nd perm = true)
    (hn : As.length = n) (hst : st = As.reverse ++ .ref b :: rest) (hW : (rest.map fun v => v.category).sum ≤ 8) (hdg : decode cc pc = .ok (.invokevirtual index, 3)) (hf : cells + mc ≤ Rm.cells ∧ slots + ms ≤ Rm.slots) (pc' : Nat) (hp : pc + 3 = pc')
    (k : ∀ r u, post r u → gx X (cells + mc) (slots + ms) (ws' u) pc' lv (.int r :: rest)) : gx X cells slots ws pc lv st := by
  obtain ⟨p, l, e, R, s, m, args, below, meth, c, A, D, nL, Q⟩ := X
  subst hp
  subst hst
  have hRm : R = Rm := C.2.2.2.2.2.2.2.2
  subst hRm
  intro H locs ls hP hD hS hl
  have hPc := hP.sub (ws' := WC) isC (fm_of_map hC)
  have hDc := hD.sub (ws' := WC) isC hcn hC
  have hFc := va_free (wc := WC) hD hS C.2.2.2.2.2.2.1 isC hC
  refine va_calli (va_runV (As := As) (rest := rest) ⟨C.1, C.2.1, C.2.2.1, C.2.2.2.1, C.2.2.2.2.1⟩ (hM H.size) (cwV n C.2.2.2.2.1 hg hw hrc hrs hd hR) ⟨fun a U g mk q => by obtain ⟨e0, q0, qP, qK, qD, qX⟩ := q; exact ⟨e0, q0, qP, va_K.moved (u := U) (U := U.calling g mk a) (Vm.Alike.refl U.vm) qK, qD, hXP.1 a U g mk qX⟩, va_recv C.2.2.2.2.2.1 hPc hci hq0, fun U hU hW => ⟨rfl, by rw [hU], by rw [hU]; exact hPc, va_K.moved hW.alike C.2.2.2.2.2.1, hDc.weaken (fun _ _ _ _ => trivial), hXP.2 H locs U hS hU hW⟩⟩ rfl hn hl.1 rfl (lv_room hW) hdg hf) hS (fun q _ h => hFc q h) hFc (fun r u t H1 locs1 ht hvm hw9 hB hz1 hk1 hS => ?_)
  obtain ⟨hP1, hK1, hD1⟩ := hB
  rw [ht] at hP1
  obtain ⟨hP', hD'⟩ := va_join hP hD isC isR hC hRr hnd hdis hk1 hFc hP1 hD1
  exact k r u hw9 H1 locs1 ls (hP'.sub perm (fm_of_map (hperm u))) (hD'.sub perm hpn (hperm u)) hS hl
theorem g_callVl {S : Type} (C : gx_C X cc own Ts tys N Rm) {y : MethodName} {wsY wsY' : List Cond} {rm : Room} {As rest : List Value} {WC : va_W} {W1 : S → va_W} {XP : State → Prop} {post : Int64 → S → Prop} {mc ms index maxL : Nat} {bytes : ByteArray} {b : Nat} {Cn : String} {Tn : u_T} {Nn ci q0 : Nat} {fs : List Value} {ret : Option FieldType}
    (hM : ∀ sz, Met (gx_l X) y wsY rm (va_Pc (.ref b :: As) (pW (gx_D X) tys WC XP sz)) (va_Ql post (qW (gx_D X) tys (va_A WC sz) W1) (va_A WC sz)) mc ms (va_A WC sz)) (hXP : gx_XP X XP)
    (n : Nat) (hg : GoodIn Ts (wsV own index Cn y wsY)) (hw : wsY = Cond.code y bytes maxL ret :: wsY') (hrc : rm.cells = mc) (hrs : rm.slots = ms) (hd : y.cls = Cn ∧ y.cls ≠ "java/lang/invoke/MethodHandle" ∧ y.cls ≠ "java/lang/invoke/VarHandle" ∧ (parseMethodDescriptor y.desc).map (fun d => d.parameters.length) = some n) (hR : rm.frames + 1 ≤ Rm.frames ∧ 8 + (maxL + 11) + rm.locals ≤ Rm.locals)
    (hci : vwCl[ci]? = some (Cn, Tn, Nn)) (hq0 : WC[q0]? = some (b, .inr (ci, fs))) (isC isR perm : List Nat) {wr : va_W} {ws' : S → va_W} (hC : isC.map (fun i => ws[i]?) = WC.map some) (hcn : va_nd isC = true) (hRr : isR.map (fun i => ws[i]?) = wr.map some) (hnd : va_nd isR = true) (hdis : ∀ i ∈ isR, i ∉ isC) (hperm : ∀ u, perm.map (fun i => (wr ++ W1 u)[i]?) = (ws' u).map some) (hpn : va_nd perm = true)
    (hn : As.length = n) (hst : st = As.reverse ++ .ref b :: rest) (hW : (rest.map fun v => v.category).sum ≤ 8) (hdg : decode cc pc = .ok (.invokevirtual index, 3)) (hf : cells + mc ≤ Rm.cells ∧ slots + ms ≤ Rm.slots) (pc' : Nat) (hp : pc + 3 = pc')
    (k : ∀ r u, post r u → gx X (cells + mc) (slots + ms) (ws' u) pc' lv (.long r :: rest)) : gx X cells slots ws pc lv st := by
  obtain ⟨p, l, e, R, s, m, args, below, meth, c, A, D, nL, Q⟩ := X
  subst hp
  subst hst
  have hRm : R = Rm := C.2.2.2.2.2.2.2.2
  subst hRm
  intro H locs ls hP hD hS hl
  have hPc := hP.sub (ws' := WC) isC (fm_of_map hC)
  have hDc := hD.sub (ws' := WC) isC hcn hC
  have hFc := va_free (wc := WC) hD hS C.2.2.2.2.2.2.1 isC hC
  refine va_calll (va_runV (As := As) (rest := rest) ⟨C.1, C.2.1, C.2.2.1, C.2.2.2.1, C.2.2.2.2.1⟩ (hM H.size) (cwV n C.2.2.2.2.1 hg hw hrc hrs hd hR) ⟨fun a U g mk q => by obtain ⟨e0, q0, qP, qK, qD, qX⟩ := q; exact ⟨e0, q0, qP, va_K.moved (u := U) (U := U.calling g mk a) (Vm.Alike.refl U.vm) qK, qD, hXP.1 a U g mk qX⟩, va_recv C.2.2.2.2.2.1 hPc hci hq0, fun U hU hW => ⟨rfl, by rw [hU], by rw [hU]; exact hPc, va_K.moved hW.alike C.2.2.2.2.2.1, hDc.weaken (fun _ _ _ _ => trivial), hXP.2 H locs U hS hU hW⟩⟩ rfl hn hl.1 rfl (lv_room hW) hdg hf) hS (fun q _ h => hFc q h) hFc (fun r u t H1 locs1 ht hvm hw9 hB hz1 hk1 hS => ?_)
  obtain ⟨hP1, hK1, hD1⟩ := hB
  rw [ht] at hP1
  obtain ⟨hP', hD'⟩ := va_join hP hD isC isR hC hRr hnd hdis hk1 hFc hP1 hD1
  exact k r u hw9 H1 locs1 ls (hP'.sub perm (fm_of_map (hperm u))) (hD'.sub perm hpn (hperm u)) hS hl
theorem g_callVv {S : Type} (C : gx_C X cc own Ts tys N Rm) {y : MethodName} {wsY wsY' : List Cond} {rm : Room} {As rest : List Value} {WC : va_W} {W1 : S → va_W} {XP : State → Prop} {post : S → Prop} {mc ms index maxL : Nat} {bytes : ByteArray} {b : Nat} {Cn : String} {Tn : u_T} {Nn ci q0 : Nat} {fs : List Value} {ret : Option FieldType}
    (hM : ∀ sz, Met (gx_l X) y wsY rm (va_Pc (.ref b :: As) (pW (gx_D X) tys WC XP sz)) (va_Qv post (qW (gx_D X) tys (va_A WC sz) W1) (va_A WC sz)) mc ms (va_A WC sz)) (hXP : gx_XP X XP)
    (n : Nat) (hg : GoodIn Ts (wsV own index Cn y wsY)) (hw : wsY = Cond.code y bytes maxL ret :: wsY') (hrc : rm.cells = mc) (hrs : rm.slots = ms) (hd : y.cls = Cn ∧ y.cls ≠ "java/lang/invoke/MethodHandle" ∧ y.cls ≠ "java/lang/invoke/VarHandle" ∧ (parseMethodDescriptor y.desc).map (fun d => d.parameters.length) = some n) (hR : rm.frames + 1 ≤ Rm.frames ∧ 8 + (maxL + 11) + rm.locals ≤ Rm.locals)
    (hci : vwCl[ci]? = some (Cn, Tn, Nn)) (hq0 : WC[q0]? = some (b, .inr (ci, fs))) (isC isR perm : List Nat) {wr : va_W} {ws' : S → va_W} (hC : isC.map (fun i => ws[i]?) = WC.map some) (hcn : va_nd isC = true) (hRr : isR.map (fun i => ws[i]?) = wr.map some) (hnd : va_nd isR = true) (hdis : ∀ i ∈ isR, i ∉ isC) (hperm : ∀ u, perm.map (fun i => (wr ++ W1 u)[i]?) = (ws' u).map some) (hpn : va_nd perm = true)
    (hn : As.length = n) (hst : st = As.reverse ++ .ref b :: rest) (hW : (rest.map fun v => v.category).sum ≤ 8) (hdg : decode cc pc = .ok (.invokevirtual index, 3)) (hf : cells + mc ≤ Rm.cells ∧ slots + ms ≤ Rm.slots) (pc' : Nat) (hp : pc + 3 = pc')
    (k : ∀ u, post u → gx X (cells + mc) (slots + ms) (ws' u) pc' lv (rest)) : gx X cells slots ws pc lv st := by
  obtain ⟨p, l, e, R, s, m, args, below, meth, c, A, D, nL, Q⟩ := X
  subst hp
  subst hst
  have hRm : R = Rm := C.2.2.2.2.2.2.2.2
  subst hRm
  intro H locs ls hP hD hS hl
  have hPc := hP.sub (ws' := WC) isC (fm_of_map hC)
  have hDc := hD.sub (ws' := WC) isC hcn hC
  have hFc := va_free (wc := WC) hD hS C.2.2.2.2.2.2.1 isC hC
  refine va_callv (va_runV (As := As) (rest := rest) ⟨C.1, C.2.1, C.2.2.1, C.2.2.2.1, C.2.2.2.2.1⟩ (hM H.size) (cwV n C.2.2.2.2.1 hg hw hrc hrs hd hR) ⟨fun a U g mk q => by obtain ⟨e0, q0, qP, qK, qD, qX⟩ := q; exact ⟨e0, q0, qP, va_K.moved (u := U) (U := U.calling g mk a) (Vm.Alike.refl U.vm) qK, qD, hXP.1 a U g mk qX⟩, va_recv C.2.2.2.2.2.1 hPc hci hq0, fun U hU hW => ⟨rfl, by rw [hU], by rw [hU]; exact hPc, va_K.moved hW.alike C.2.2.2.2.2.1, hDc.weaken (fun _ _ _ _ => trivial), hXP.2 H locs U hS hU hW⟩⟩ rfl hn hl.1 rfl (lv_room hW) hdg hf) hS (fun q _ h => hFc q h) hFc (fun u t H1 locs1 ht hvm hw9 hB hz1 hk1 hS => ?_)
  obtain ⟨hP1, hK1, hD1⟩ := hB
  rw [ht] at hP1
  obtain ⟨hP', hD'⟩ := va_join hP hD isC isR hC hRr hnd hdis hk1 hFc hP1 hD1
  exact k u hw9 H1 locs1 ls (hP'.sub perm (fm_of_map (hperm u))) (hD'.sub perm hpn (hperm u)) hS hl
theorem g_callSi {S : Type} (C : gx_C X cc own Ts tys N Rm) {y : MethodName} {wsY wsY' : List Cond} {rm : Room} {As rest : List Value} {WC : va_W} {W1 : S → va_W} {XP : State → Prop} {post : Int32 → S → Prop} {mc ms index maxL : Nat} {bytes : ByteArray} {ret : Option FieldType}
    (hM : ∀ sz, Met (gx_l X) y wsY rm (va_Pc As (pW (gx_D X) tys WC XP sz)) (va_Qi post (qW (gx_D X) tys (va_A WC sz) W1) (va_A WC sz)) mc ms (va_A WC sz)) (hXP : gx_XP X XP)
    (n : Nat) (hg : GoodIn Ts (va_wsS own index y wsY)) (hw : wsY = Cond.code y bytes maxL ret :: wsY') (hrc : rm.cells = mc) (hrs : rm.slots = ms) (hd : y.cls ≠ "java/lang/invoke/MethodHandle" ∧ y.cls ≠ "java/lang/invoke/VarHandle" ∧ (parseMethodDescriptor y.desc).map (fun d => d.parameters.length) = some n) (hR : rm.frames + 1 ≤ Rm.frames ∧ 8 + (maxL + 11) + rm.locals ≤ Rm.locals)
    (isC isR perm : List Nat) {wr : va_W} {ws' : S → va_W} (hC : isC.map (fun i => ws[i]?) = WC.map some) (hcn : va_nd isC = true) (hRr : isR.map (fun i => ws[i]?) = wr.map some) (hnd : va_nd isR = true) (hdis : ∀ i ∈ isR, i ∉ isC) (hperm : ∀ u, perm.map (fun i => (wr ++ W1 u)[i]?) = (ws' u).map some) (hpn : va_nd perm = true)
    (hn : As.length = n) (hst : st = As.reverse ++ rest) (hW : (rest.map fun v => v.category).sum ≤ 8) (hdg : decode cc pc = .ok (.invokestatic index, 3)) (hf : cells + mc ≤ Rm.cells ∧ slots + ms ≤ Rm.slots) (pc' : Nat) (hp : pc + 3 = pc')
    (k : ∀ r u, post r u → gx X (cells + mc) (slots + ms) (ws' u) pc' lv (.int r :: rest)) : gx X cells slots ws pc lv st := by
  obtain ⟨p, l, e, R, s, m, args, below, meth, c, A, D, nL, Q⟩ := X
  subst hp
  subst hst
  have hRm : R = Rm := C.2.2.2.2.2.2.2.2
  subst hRm
  intro H locs ls hP hD hS hl
  have hPc := hP.sub (ws' := WC) isC (fm_of_map hC)
  have hDc := hD.sub (ws' := WC) isC hcn hC
  have hFc := va_free (wc := WC) hD hS C.2.2.2.2.2.2.1 isC hC
  refine va_calli (va_runS (As := As) (rest := rest) ⟨C.1, C.2.1, C.2.2.1, C.2.2.2.1, C.2.2.2.2.1⟩ (hM H.size) (va_cwS n C.2.2.2.2.1 hg hw hrc hrs hd hR) ⟨fun a U g mk q => by obtain ⟨e0, q0, qP, qK, qD, qX⟩ := q; exact ⟨e0, q0, qP, va_K.moved (u := U) (U := U.calling g mk a) (Vm.Alike.refl U.vm) qK, qD, hXP.1 a U g mk qX⟩, fun U hU hW => ⟨rfl, by rw [hU], by rw [hU]; exact hPc, va_K.moved hW.alike C.2.2.2.2.2.1, hDc.weaken (fun _ _ _ _ => trivial), hXP.2 H locs U hS hU hW⟩⟩ rfl hn hl.1 rfl (lv_room hW) hdg hf) hS (fun q _ h => hFc q h) hFc (fun r u t H1 locs1 ht hvm hw9 hB hz1 hk1 hS => ?_)
  obtain ⟨hP1, hK1, hD1⟩ := hB
  rw [ht] at hP1
  obtain ⟨hP', hD'⟩ := va_join hP hD isC isR hC hRr hnd hdis hk1 hFc hP1 hD1
  exact k r u hw9 H1 locs1 ls (hP'.sub perm (fm_of_map (hperm u))) (hD'.sub perm hpn (hperm u)) hS hl
theorem g_callSl {S : Type} (C : gx_C X cc own Ts tys N Rm) {y : MethodName} {wsY wsY' : List Cond} {rm : Room} {As rest : List Value} {WC : va_W} {W1 : S → va_W} {XP : State → Prop} {post : Int64 → S → Prop} {mc ms index maxL : Nat} {bytes : ByteArray} {ret : Option FieldType}
    (hM : ∀ sz, Met (gx_l X) y wsY rm (va_Pc As (pW (gx_D X) tys WC XP sz)) (va_Ql post (qW (gx_D X) tys (va_A WC sz) W1) (va_A WC sz)) mc ms (va_A WC sz)) (hXP : gx_XP X XP)
    (n : Nat) (hg : GoodIn Ts (va_wsS own index y wsY)) (hw : wsY = Cond.code y bytes maxL ret :: wsY') (hrc : rm.cells = mc) (hrs : rm.slots = ms) (hd : y.cls ≠ "java/lang/invoke/MethodHandle" ∧ y.cls ≠ "java/lang/invoke/VarHandle" ∧ (parseMethodDescriptor y.desc).map (fun d => d.parameters.length) = some n) (hR : rm.frames + 1 ≤ Rm.frames ∧ 8 + (maxL + 11) + rm.locals ≤ Rm.locals)
    (isC isR perm : List Nat) {wr : va_W} {ws' : S → va_W} (hC : isC.map (fun i => ws[i]?) = WC.map some) (hcn : va_nd isC = true) (hRr : isR.map (fun i => ws[i]?) = wr.map some) (hnd : va_nd isR = true) (hdis : ∀ i ∈ isR, i ∉ isC) (hperm : ∀ u, perm.map (fun i => (wr ++ W1 u)[i]?) = (ws' u).map some) (hpn : va_nd perm = true)
    (hn : As.length = n) (hst : st = As.reverse ++ rest) (hW : (rest.map fun v => v.category).sum ≤ 8) (hdg : decode cc pc = .ok (.invokestatic index, 3)) (hf : cells + mc ≤ Rm.cells ∧ slots + ms ≤ Rm.slots) (pc' : Nat) (hp : pc + 3 = pc')
    (k : ∀ r u, post r u → gx X (cells + mc) (slots + ms) (ws' u) pc' lv (.long r :: rest)) : gx X cells slots ws pc lv st := by
  obtain ⟨p, l, e, R, s, m, args, below, meth, c, A, D, nL, Q⟩ := X
  subst hp
  subst hst
  have hRm : R = Rm := C.2.2.2.2.2.2.2.2
  subst hRm
  intro H locs ls hP hD hS hl
  have hPc := hP.sub (ws' := WC) isC (fm_of_map hC)
  have hDc := hD.sub (ws' := WC) isC hcn hC
  have hFc := va_free (wc := WC) hD hS C.2.2.2.2.2.2.1 isC hC
  refine va_calll (va_runS (As := As) (rest := rest) ⟨C.1, C.2.1, C.2.2.1, C.2.2.2.1, C.2.2.2.2.1⟩ (hM H.size) (va_cwS n C.2.2.2.2.1 hg hw hrc hrs hd hR) ⟨fun a U g mk q => by obtain ⟨e0, q0, qP, qK, qD, qX⟩ := q; exact ⟨e0, q0, qP, va_K.moved (u := U) (U := U.calling g mk a) (Vm.Alike.refl U.vm) qK, qD, hXP.1 a U g mk qX⟩, fun U hU hW => ⟨rfl, by rw [hU], by rw [hU]; exact hPc, va_K.moved hW.alike C.2.2.2.2.2.1, hDc.weaken (fun _ _ _ _ => trivial), hXP.2 H locs U hS hU hW⟩⟩ rfl hn hl.1 rfl (lv_room hW) hdg hf) hS (fun q _ h => hFc q h) hFc (fun r u t H1 locs1 ht hvm hw9 hB hz1 hk1 hS => ?_)
  obtain ⟨hP1, hK1, hD1⟩ := hB
  rw [ht] at hP1
  obtain ⟨hP', hD'⟩ := va_join hP hD isC isR hC hRr hnd hdis hk1 hFc hP1 hD1
  exact k r u hw9 H1 locs1 ls (hP'.sub perm (fm_of_map (hperm u))) (hD'.sub perm hpn (hperm u)) hS hl
theorem g_callSv {S : Type} (C : gx_C X cc own Ts tys N Rm) {y : MethodName} {wsY wsY' : List Cond} {rm : Room} {As rest : List Value} {WC : va_W} {W1 : S → va_W} {XP : State → Prop} {post : S → Prop} {mc ms index maxL : Nat} {bytes : ByteArray} {ret : Option FieldType}
    (hM : ∀ sz, Met (gx_l X) y wsY rm (va_Pc As (pW (gx_D X) tys WC XP sz)) (va_Qv post (qW (gx_D X) tys (va_A WC sz) W1) (va_A WC sz)) mc ms (va_A WC sz)) (hXP : gx_XP X XP)
    (n : Nat) (hg : GoodIn Ts (va_wsS own index y wsY)) (hw : wsY = Cond.code y bytes maxL ret :: wsY') (hrc : rm.cells = mc) (hrs : rm.slots = ms) (hd : y.cls ≠ "java/lang/invoke/MethodHandle" ∧ y.cls ≠ "java/lang/invoke/VarHandle" ∧ (parseMethodDescriptor y.desc).map (fun d => d.parameters.length) = some n) (hR : rm.frames + 1 ≤ Rm.frames ∧ 8 + (maxL + 11) + rm.locals ≤ Rm.locals)
    (isC isR perm : List Nat) {wr : va_W} {ws' : S → va_W} (hC : isC.map (fun i => ws[i]?) = WC.map some) (hcn : va_nd isC = true) (hRr : isR.map (fun i => ws[i]?) = wr.map some) (hnd : va_nd isR = true) (hdis : ∀ i ∈ isR, i ∉ isC) (hperm : ∀ u, perm.map (fun i => (wr ++ W1 u)[i]?) = (ws' u).map some) (hpn : va_nd perm = true)
    (hn : As.length = n) (hst : st = As.reverse ++ rest) (hW : (rest.map fun v => v.category).sum ≤ 8) (hdg : decode cc pc = .ok (.invokestatic index, 3)) (hf : cells + mc ≤ Rm.cells ∧ slots + ms ≤ Rm.slots) (pc' : Nat) (hp : pc + 3 = pc')
    (k : ∀ u, post u → gx X (cells + mc) (slots + ms) (ws' u) pc' lv (rest)) : gx X cells slots ws pc lv st := by
  obtain ⟨p, l, e, R, s, m, args, below, meth, c, A, D, nL, Q⟩ := X
  subst hp
  subst hst
  have hRm : R = Rm := C.2.2.2.2.2.2.2.2
  subst hRm
  intro H locs ls hP hD hS hl
  have hPc := hP.sub (ws' := WC) isC (fm_of_map hC)
  have hDc := hD.sub (ws' := WC) isC hcn hC
  have hFc := va_free (wc := WC) hD hS C.2.2.2.2.2.2.1 isC hC
  refine va_callv (va_runS (As := As) (rest := rest) ⟨C.1, C.2.1, C.2.2.1, C.2.2.2.1, C.2.2.2.2.1⟩ (hM H.size) (va_cwS n C.2.2.2.2.1 hg hw hrc hrs hd hR) ⟨fun a U g mk q => by obtain ⟨e0, q0, qP, qK, qD, qX⟩ := q; exact ⟨e0, q0, qP, va_K.moved (u := U) (U := U.calling g mk a) (Vm.Alike.refl U.vm) qK, qD, hXP.1 a U g mk qX⟩, fun U hU hW => ⟨rfl, by rw [hU], by rw [hU]; exact hPc, va_K.moved hW.alike C.2.2.2.2.2.1, hDc.weaken (fun _ _ _ _ => trivial), hXP.2 H locs U hS hU hW⟩⟩ rfl hn hl.1 rfl (lv_room hW) hdg hf) hS (fun q _ h => hFc q h) hFc (fun u t H1 locs1 ht hvm hw9 hB hz1 hk1 hS => ?_)
  obtain ⟨hP1, hK1, hD1⟩ := hB
  rw [ht] at hP1
  obtain ⟨hP', hD'⟩ := va_join hP hD isC isR hC hRr hnd hdis hk1 hFc hP1 hD1
  exact k u hw9 H1 locs1 ls (hP'.sub perm (fm_of_map (hperm u))) (hD'.sub perm hpn (hperm u)) hS hl
theorem g_callIv {S : Type} (C : gx_C X cc own Ts tys N Rm) {y : MethodName} {wsY wsY' : List Cond} {rm : Room} {As rest : List Value} {WC : va_W} {W1 : S → va_W} {XP : State → Prop} {post : S → Prop} {mc ms index maxL : Nat} {bytes : ByteArray} {b : Nat}
    (hM : ∀ sz, Met (gx_l X) y wsY rm (va_Pc (.ref b :: As) (pW (gx_D X) tys WC XP sz)) (va_Qv post (qW (gx_D X) tys (va_A WC sz) W1) (va_A WC sz)) mc ms (va_A WC sz)) (hXP : gx_XP X XP)
    (n : Nat) (hg : GoodIn Ts wsY) (hini : Cond.initialized y.cls ∈ Ts) (hlk : Cond.methodLink own index y ∈ Ts) (hinm : Cond.instanceMethod y ∈ Ts) (hy1 : y.name = "<init>") (hw : wsY = Cond.code y bytes maxL none :: wsY') (hrc : rm.cells = mc) (hrs : rm.slots = ms) (hd : y.cls ≠ "java/lang/invoke/MethodHandle" ∧ y.cls ≠ "java/lang/invoke/VarHandle" ∧ (parseMethodDescriptor y.desc).map (fun d => d.parameters.length) = some n) (hR : rm.frames + 1 ≤ Rm.frames ∧ 8 + (maxL + 11) + rm.locals ≤ Rm.locals)
    (isC isR perm : List Nat) {wr : va_W} {ws' : S → va_W} (hC : isC.map (fun i => ws[i]?) = WC.map some) (hcn : va_nd isC = true) (hRr : isR.map (fun i => ws[i]?) = wr.map some) (hnd : va_nd isR = true) (hdis : ∀ i ∈ isR, i ∉ isC) (hperm : ∀ u, perm.map (fun i => (wr ++ W1 u)[i]?) = (ws' u).map some) (hpn : va_nd perm = true)
    (hn : As.length = n) (hst : st = As.reverse ++ .ref b :: rest) (hW : (rest.map fun v => v.category).sum ≤ 8) (hdg : decode cc pc = .ok (.invokespecial index, 3)) (hf : cells + mc ≤ Rm.cells ∧ slots + ms ≤ Rm.slots) (pc' : Nat) (hp : pc + 3 = pc')
    (k : ∀ u, post u → gx X (cells + mc) (slots + ms) (ws' u) pc' lv (rest)) : gx X cells slots ws pc lv st := by
  obtain ⟨p, l, e, R, s, m, args, below, meth, c, A, D, nL, Q⟩ := X
  subst hp
  subst hst
  have hRm : R = Rm := C.2.2.2.2.2.2.2.2
  subst hRm
  intro H locs ls hP hD hS hl
  have hPc := hP.sub (ws' := WC) isC (fm_of_map hC)
  have hDc := hD.sub (ws' := WC) isC hcn hC
  have hFc := va_free (wc := WC) hD hS C.2.2.2.2.2.2.1 isC hC
  refine va_callv (va_runI (As := As) (rest := rest) ⟨C.1, C.2.1, C.2.2.1, C.2.2.2.1, C.2.2.2.2.1⟩ (hM H.size) (cwI n C.2.2.2.2.1 hg hw hrc hrs (C.2.2.2.2.1 _ hini) (C.2.2.2.2.1 _ hlk) (C.2.2.2.2.1 _ hinm) hy1 hd hR) ⟨fun a U g mk q => by obtain ⟨e0, q0, qP, qK, qD, qX⟩ := q; exact ⟨e0, q0, qP, va_K.moved (u := U) (U := U.calling g mk a) (Vm.Alike.refl U.vm) qK, qD, hXP.1 a U g mk qX⟩, fun U hU hW => ⟨rfl, by rw [hU], by rw [hU]; exact hPc, va_K.moved hW.alike C.2.2.2.2.2.1, hDc.weaken (fun _ _ _ _ => trivial), hXP.2 H locs U hS hU hW⟩⟩ rfl hn hl.1 rfl (lv_room hW) hdg hf) hS (fun q _ h => hFc q h) hFc (fun u t H1 locs1 ht hvm hw9 hB hz1 hk1 hS => ?_)
  obtain ⟨hP1, hK1, hD1⟩ := hB
  rw [ht] at hP1
  obtain ⟨hP', hD'⟩ := va_join hP hD isC isR hC hRr hnd hdis hk1 hFc hP1 hD1
  exact k u hw9 H1 locs1 ls (hP'.sub perm (fm_of_map (hperm u))) (hD'.sub perm hpn (hperm u)) hS hl
theorem g_callSNi {S : Type} (C : gx_C X cc own Ts tys N Rm) {y : MethodName} {wsY wsY' : List Cond} {rm : Room} {As rest : List Value} {WC : va_W} {W1 : S → va_W} {XP : State → Prop} {post : Int32 → S → Prop} {mc ms index maxL : Nat} {bytes : ByteArray} {ret : Option FieldType} {host : String}
    (hM : ∀ sz, Met (gx_l X) y wsY rm (va_Pc As (pW (gx_D X) tys WC XP sz)) (va_Qi post (qW (gx_D X) tys (va_A WC sz) W1) (va_A WC sz)) mc ms (va_A WC sz)) (hXP : gx_XP X XP)
    (n : Nat) (hg : GoodIn Ts wsY) (hlk : va_Nw (.methodLinkNest own index y host) (gx_s X)) (hini : Cond.initialized y.cls ∈ Ts) (hsta : Cond.static y ∈ Ts) (hw : wsY = Cond.code y bytes maxL ret :: wsY') (hrc : rm.cells = mc) (hrs : rm.slots = ms) (hd : y.cls ≠ "java/lang/invoke/MethodHandle" ∧ y.cls ≠ "java/lang/invoke/VarHandle" ∧ (parseMethodDescriptor y.desc).map (fun d => d.parameters.length) = some n) (hR : rm.frames + 1 ≤ Rm.frames ∧ 8 + (maxL + 11) + rm.locals ≤ Rm.locals)
    (isC isR perm : List Nat) {wr : va_W} {ws' : S → va_W} (hC : isC.map (fun i => ws[i]?) = WC.map some) (hcn : va_nd isC = true) (hRr : isR.map (fun i => ws[i]?) = wr.map some) (hnd : va_nd isR = true) (hdis : ∀ i ∈ isR, i ∉ isC) (hperm : ∀ u, perm.map (fun i => (wr ++ W1 u)[i]?) = (ws' u).map some) (hpn : va_nd perm = true)
    (hn : As.length = n) (hst : st = As.reverse ++ rest) (hW : (rest.map fun v => v.category).sum ≤ 8) (hdg : decode cc pc = .ok (.invokestatic index, 3)) (hf : cells + mc ≤ Rm.cells ∧ slots + ms ≤ Rm.slots) (pc' : Nat) (hp : pc + 3 = pc')
    (k : ∀ r u, post r u → gx X (cells + mc) (slots + ms) (ws' u) pc' lv (.int r :: rest)) : gx X cells slots ws pc lv st := by
  obtain ⟨p, l, e, R, s, m, args, below, meth, c, A, D, nL, Q⟩ := X
  subst hp
  subst hst
  have hRm : R = Rm := C.2.2.2.2.2.2.2.2
  subst hRm
  intro H locs ls hP hD hS hl
  have hPc := hP.sub (ws' := WC) isC (fm_of_map hC)
  have hDc := hD.sub (ws' := WC) isC hcn hC
  have hFc := va_free (wc := WC) hD hS C.2.2.2.2.2.2.1 isC hC
  refine va_calli (va_runSN (As := As) (rest := rest) ⟨C.1, C.2.1, C.2.2.1, C.2.2.2.1, C.2.2.2.2.1⟩ (hM H.size) ⟨va_cnB n C.2.2.2.2.1 hg hw hrc hrs hlk (C.2.2.2.2.1 _ hini) hd hR, C.2.2.2.2.1 _ hsta, trivial⟩ ⟨fun a U g mk q => by obtain ⟨e0, q0, qP, qK, qD, qX⟩ := q; exact ⟨e0, q0, qP, va_K.moved (u := U) (U := U.calling g mk a) (Vm.Alike.refl U.vm) qK, qD, hXP.1 a U g mk qX⟩, fun U hU hW => ⟨rfl, by rw [hU], by rw [hU]; exact hPc, va_K.moved hW.alike C.2.2.2.2.2.1, hDc.weaken (fun _ _ _ _ => trivial), hXP.2 H locs U hS hU hW⟩⟩ rfl hn hl.1 rfl (lv_room hW) hdg hf) hS (fun q _ h => hFc q h) hFc (fun r u t H1 locs1 ht hvm hw9 hB hz1 hk1 hS => ?_)
  obtain ⟨hP1, hK1, hD1⟩ := hB
  rw [ht] at hP1
  obtain ⟨hP', hD'⟩ := va_join hP hD isC isR hC hRr hnd hdis hk1 hFc hP1 hD1
  exact k r u hw9 H1 locs1 ls (hP'.sub perm (fm_of_map (hperm u))) (hD'.sub perm hpn (hperm u)) hS hl
theorem g_callSNl {S : Type} (C : gx_C X cc own Ts tys N Rm) {y : MethodName} {wsY wsY' : List Cond} {rm : Room} {As rest : List Value} {WC : va_W} {W1 : S → va_W} {XP : State → Prop} {post : Int64 → S → Prop} {mc ms index maxL : Nat} {bytes : ByteArray} {ret : Option FieldType} {host : String}
    (hM : ∀ sz, Met (gx_l X) y wsY rm (va_Pc As (pW (gx_D X) tys WC XP sz)) (va_Ql post (qW (gx_D X) tys (va_A WC sz) W1) (va_A WC sz)) mc ms (va_A WC sz)) (hXP : gx_XP X XP)
    (n : Nat) (hg : GoodIn Ts wsY) (hlk : va_Nw (.methodLinkNest own index y host) (gx_s X)) (hini : Cond.initialized y.cls ∈ Ts) (hsta : Cond.static y ∈ Ts) (hw : wsY = Cond.code y bytes maxL ret :: wsY') (hrc : rm.cells = mc) (hrs : rm.slots = ms) (hd : y.cls ≠ "java/lang/invoke/MethodHandle" ∧ y.cls ≠ "java/lang/invoke/VarHandle" ∧ (parseMethodDescriptor y.desc).map (fun d => d.parameters.length) = some n) (hR : rm.frames + 1 ≤ Rm.frames ∧ 8 + (maxL + 11) + rm.locals ≤ Rm.locals)
    (isC isR perm : List Nat) {wr : va_W} {ws' : S → va_W} (hC : isC.map (fun i => ws[i]?) = WC.map some) (hcn : va_nd isC = true) (hRr : isR.map (fun i => ws[i]?) = wr.map some) (hnd : va_nd isR = true) (hdis : ∀ i ∈ isR, i ∉ isC) (hperm : ∀ u, perm.map (fun i => (wr ++ W1 u)[i]?) = (ws' u).map some) (hpn : va_nd perm = true)
    (hn : As.length = n) (hst : st = As.reverse ++ rest) (hW : (rest.map fun v => v.category).sum ≤ 8) (hdg : decode cc pc = .ok (.invokestatic index, 3)) (hf : cells + mc ≤ Rm.cells ∧ slots + ms ≤ Rm.slots) (pc' : Nat) (hp : pc + 3 = pc')
    (k : ∀ r u, post r u → gx X (cells + mc) (slots + ms) (ws' u) pc' lv (.long r :: rest)) : gx X cells slots ws pc lv st := by
  obtain ⟨p, l, e, R, s, m, args, below, meth, c, A, D, nL, Q⟩ := X
  subst hp
  subst hst
  have hRm : R = Rm := C.2.2.2.2.2.2.2.2
  subst hRm
  intro H locs ls hP hD hS hl
  have hPc := hP.sub (ws' := WC) isC (fm_of_map hC)
  have hDc := hD.sub (ws' := WC) isC hcn hC
  have hFc := va_free (wc := WC) hD hS C.2.2.2.2.2.2.1 isC hC
  refine va_calll (va_runSN (As := As) (rest := rest) ⟨C.1, C.2.1, C.2.2.1, C.2.2.2.1, C.2.2.2.2.1⟩ (hM H.size) ⟨va_cnB n C.2.2.2.2.1 hg hw hrc hrs hlk (C.2.2.2.2.1 _ hini) hd hR, C.2.2.2.2.1 _ hsta, trivial⟩ ⟨fun a U g mk q => by obtain ⟨e0, q0, qP, qK, qD, qX⟩ := q; exact ⟨e0, q0, qP, va_K.moved (u := U) (U := U.calling g mk a) (Vm.Alike.refl U.vm) qK, qD, hXP.1 a U g mk qX⟩, fun U hU hW => ⟨rfl, by rw [hU], by rw [hU]; exact hPc, va_K.moved hW.alike C.2.2.2.2.2.1, hDc.weaken (fun _ _ _ _ => trivial), hXP.2 H locs U hS hU hW⟩⟩ rfl hn hl.1 rfl (lv_room hW) hdg hf) hS (fun q _ h => hFc q h) hFc (fun r u t H1 locs1 ht hvm hw9 hB hz1 hk1 hS => ?_)
  obtain ⟨hP1, hK1, hD1⟩ := hB
  rw [ht] at hP1
  obtain ⟨hP', hD'⟩ := va_join hP hD isC isR hC hRr hnd hdis hk1 hFc hP1 hD1
  exact k r u hw9 H1 locs1 ls (hP'.sub perm (fm_of_map (hperm u))) (hD'.sub perm hpn (hperm u)) hS hl
theorem g_callSNv {S : Type} (C : gx_C X cc own Ts tys N Rm) {y : MethodName} {wsY wsY' : List Cond} {rm : Room} {As rest : List Value} {WC : va_W} {W1 : S → va_W} {XP : State → Prop} {post : S → Prop} {mc ms index maxL : Nat} {bytes : ByteArray} {ret : Option FieldType} {host : String}
    (hM : ∀ sz, Met (gx_l X) y wsY rm (va_Pc As (pW (gx_D X) tys WC XP sz)) (va_Qv post (qW (gx_D X) tys (va_A WC sz) W1) (va_A WC sz)) mc ms (va_A WC sz)) (hXP : gx_XP X XP)
    (n : Nat) (hg : GoodIn Ts wsY) (hlk : va_Nw (.methodLinkNest own index y host) (gx_s X)) (hini : Cond.initialized y.cls ∈ Ts) (hsta : Cond.static y ∈ Ts) (hw : wsY = Cond.code y bytes maxL ret :: wsY') (hrc : rm.cells = mc) (hrs : rm.slots = ms) (hd : y.cls ≠ "java/lang/invoke/MethodHandle" ∧ y.cls ≠ "java/lang/invoke/VarHandle" ∧ (parseMethodDescriptor y.desc).map (fun d => d.parameters.length) = some n) (hR : rm.frames + 1 ≤ Rm.frames ∧ 8 + (maxL + 11) + rm.locals ≤ Rm.locals)
    (isC isR perm : List Nat) {wr : va_W} {ws' : S → va_W} (hC : isC.map (fun i => ws[i]?) = WC.map some) (hcn : va_nd isC = true) (hRr : isR.map (fun i => ws[i]?) = wr.map some) (hnd : va_nd isR = true) (hdis : ∀ i ∈ isR, i ∉ isC) (hperm : ∀ u, perm.map (fun i => (wr ++ W1 u)[i]?) = (ws' u).map some) (hpn : va_nd perm = true)
    (hn : As.length = n) (hst : st = As.reverse ++ rest) (hW : (rest.map fun v => v.category).sum ≤ 8) (hdg : decode cc pc = .ok (.invokestatic index, 3)) (hf : cells + mc ≤ Rm.cells ∧ slots + ms ≤ Rm.slots) (pc' : Nat) (hp : pc + 3 = pc')
    (k : ∀ u, post u → gx X (cells + mc) (slots + ms) (ws' u) pc' lv (rest)) : gx X cells slots ws pc lv st := by
  obtain ⟨p, l, e, R, s, m, args, below, meth, c, A, D, nL, Q⟩ := X
  subst hp
  subst hst
  have hRm : R = Rm := C.2.2.2.2.2.2.2.2
  subst hRm
  intro H locs ls hP hD hS hl
  have hPc := hP.sub (ws' := WC) isC (fm_of_map hC)
  have hDc := hD.sub (ws' := WC) isC hcn hC
  have hFc := va_free (wc := WC) hD hS C.2.2.2.2.2.2.1 isC hC
  refine va_callv (va_runSN (As := As) (rest := rest) ⟨C.1, C.2.1, C.2.2.1, C.2.2.2.1, C.2.2.2.2.1⟩ (hM H.size) ⟨va_cnB n C.2.2.2.2.1 hg hw hrc hrs hlk (C.2.2.2.2.1 _ hini) hd hR, C.2.2.2.2.1 _ hsta, trivial⟩ ⟨fun a U g mk q => by obtain ⟨e0, q0, qP, qK, qD, qX⟩ := q; exact ⟨e0, q0, qP, va_K.moved (u := U) (U := U.calling g mk a) (Vm.Alike.refl U.vm) qK, qD, hXP.1 a U g mk qX⟩, fun U hU hW => ⟨rfl, by rw [hU], by rw [hU]; exact hPc, va_K.moved hW.alike C.2.2.2.2.2.1, hDc.weaken (fun _ _ _ _ => trivial), hXP.2 H locs U hS hU hW⟩⟩ rfl hn hl.1 rfl (lv_room hW) hdg hf) hS (fun q _ h => hFc q h) hFc (fun u t H1 locs1 ht hvm hw9 hB hz1 hk1 hS => ?_)
  obtain ⟨hP1, hK1, hD1⟩ := hB
  rw [ht] at hP1
  obtain ⟨hP', hD'⟩ := va_join hP hD isC isR hC hRr hnd hdis hk1 hFc hP1 hD1
  exact k u hw9 H1 locs1 ls (hP'.sub perm (fm_of_map (hperm u))) (hD'.sub perm hpn (hperm u)) hS hl
theorem g_callINv {S : Type} (C : gx_C X cc own Ts tys N Rm) {y : MethodName} {wsY wsY' : List Cond} {rm : Room} {As rest : List Value} {WC : va_W} {W1 : S → va_W} {XP : State → Prop} {post : S → Prop} {mc ms index maxL : Nat} {bytes : ByteArray} {b : Nat} {host : String}
    (hM : ∀ sz, Met (gx_l X) y wsY rm (va_Pc (.ref b :: As) (pW (gx_D X) tys WC XP sz)) (va_Qv post (qW (gx_D X) tys (va_A WC sz) W1) (va_A WC sz)) mc ms (va_A WC sz)) (hXP : gx_XP X XP)
    (n : Nat) (hg : GoodIn Ts wsY) (hlk : va_Nw (.methodLinkNest own index y host) (gx_s X)) (hini : Cond.initialized y.cls ∈ Ts) (hinm : Cond.instanceMethod y ∈ Ts) (hy1 : y.name = "<init>") (hw : wsY = Cond.code y bytes maxL none :: wsY') (hrc : rm.cells = mc) (hrs : rm.slots = ms) (hd : y.cls ≠ "java/lang/invoke/MethodHandle" ∧ y.cls ≠ "java/lang/invoke/VarHandle" ∧ (parseMethodDescriptor y.desc).map (fun d => d.parameters.length) = some n) (hR : rm.frames + 1 ≤ Rm.frames ∧ 8 + (maxL + 11) + rm.locals ≤ Rm.locals)
    (isC isR perm : List Nat) {wr : va_W} {ws' : S → va_W} (hC : isC.map (fun i => ws[i]?) = WC.map some) (hcn : va_nd isC = true) (hRr : isR.map (fun i => ws[i]?) = wr.map some) (hnd : va_nd isR = true) (hdis : ∀ i ∈ isR, i ∉ isC) (hperm : ∀ u, perm.map (fun i => (wr ++ W1 u)[i]?) = (ws' u).map some) (hpn : va_nd perm = true)
    (hn : As.length = n) (hst : st = As.reverse ++ .ref b :: rest) (hW : (rest.map fun v => v.category).sum ≤ 8) (hdg : decode cc pc = .ok (.invokespecial index, 3)) (hf : cells + mc ≤ Rm.cells ∧ slots + ms ≤ Rm.slots) (pc' : Nat) (hp : pc + 3 = pc')
    (k : ∀ u, post u → gx X (cells + mc) (slots + ms) (ws' u) pc' lv (rest)) : gx X cells slots ws pc lv st := by
  obtain ⟨p, l, e, R, s, m, args, below, meth, c, A, D, nL, Q⟩ := X
  subst hp
  subst hst
  have hRm : R = Rm := C.2.2.2.2.2.2.2.2
  subst hRm
  intro H locs ls hP hD hS hl
  have hPc := hP.sub (ws' := WC) isC (fm_of_map hC)
  have hDc := hD.sub (ws' := WC) isC hcn hC
  have hFc := va_free (wc := WC) hD hS C.2.2.2.2.2.2.1 isC hC
  refine va_callv (va_runIN (As := As) (rest := rest) ⟨C.1, C.2.1, C.2.2.1, C.2.2.2.1, C.2.2.2.2.1⟩ (hM H.size) ⟨va_cnB n C.2.2.2.2.1 hg hw hrc hrs hlk (C.2.2.2.2.1 _ hini) hd hR, hy1, C.2.2.2.2.1 _ hinm⟩ ⟨fun a U g mk q => by obtain ⟨e0, q0, qP, qK, qD, qX⟩ := q; exact ⟨e0, q0, qP, va_K.moved (u := U) (U := U.calling g mk a) (Vm.Alike.refl U.vm) qK, qD, hXP.1 a U g mk qX⟩, fun U hU hW => ⟨rfl, by rw [hU], by rw [hU]; exact hPc, va_K.moved hW.alike C.2.2.2.2.2.1, hDc.weaken (fun _ _ _ _ => trivial), hXP.2 H locs U hS hU hW⟩⟩ rfl hn hl.1 rfl (lv_room hW) hdg hf) hS (fun q _ h => hFc q h) hFc (fun u t H1 locs1 ht hvm hw9 hB hz1 hk1 hS => ?_)
  obtain ⟨hP1, hK1, hD1⟩ := hB
  rw [ht] at hP1
  obtain ⟨hP', hD'⟩ := va_join hP hD isC isR hC hRr hnd hdis hk1 hFc hP1 hD1
  exact k u hw9 H1 locs1 ls (hP'.sub perm (fm_of_map (hperm u))) (hD'.sub perm hpn (hperm u)) hS hl
end GXC
end
section
/-! rows over numbers that are known as naturals, and over truth values -/
abbrev TY (cI cJ cB cZ : ClassId) : List (ClassId × FieldType) := [(cI, .int), (cJ, .long), (cB, .byte), (cZ, .boolean)]
def bI (b : Bool) : Int32 := if b then 1 else 0
theorem bI_0 {b : Bool} : bI b = 0 ↔ b = false := by cases b <;> decide
theorem bI_nar (b : Bool) : narrow .boolean (.int (bI b)) = .int (bI b) := by cases b <;> rfl
theorem bI_t : bI true = 1 := rfl
theorem bI_f : bI false = 0 := rfl
theorem nI_m1 {n : Nat} (h : n < 2147483648) : ¬ nI n = -1 := by
  intro q
  have a := nI_toInt (n := n) (by omega)
  rw [q] at a
  have b : (-1 : Int32).toInt = -1 := by decide
  rw [b] at a
  omega
section GXN
variable {X : gxT} {cells slots : Nat} {ws : va_W} {pc : Nat} {lv : List (Nat × Value)} {st : List Value} {cc : ByteArray} {own : String} {Ts : List Cond} {tys : List (ClassId × FieldType)} {N : Nat} {Rm : Room}
theorem g_iaddn (C : gx_C X cc own Ts tys N Rm) {a b : Nat} (hdg : decode cc pc = .ok (.iadd, 1)) (pc' : Nat) (hp : pc + 1 = pc') (k : gx X cells slots ws pc' lv (.int (nI (a + b)) :: st)) : gx X cells slots ws pc lv (.int (nI b) :: .int (nI a) :: st) := g_iadd C hdg pc' hp (g_topi _ (nI_add a b) k)
theorem g_imuln (C : gx_C X cc own Ts tys N Rm) {a b : Nat} (hdg : decode cc pc = .ok (.imul, 1)) (pc' : Nat) (hp : pc + 1 = pc') (k : gx X cells slots ws pc' lv (.int (nI (a * b)) :: st)) : gx X cells slots ws pc lv (.int (nI b) :: .int (nI a) :: st) := g_imul C hdg pc' hp (g_topi _ (pk_mul a b) k)
theorem g_isubn (C : gx_C X cc own Ts tys N Rm) {a b : Nat} (hdg : decode cc pc = .ok (.isub, 1)) (pc' : Nat) (hp : pc + 1 = pc') (h : b ≤ a) (k : gx X cells slots ws pc' lv (.int (nI (a - b)) :: st)) : gx X cells slots ws pc lv (.int (nI b) :: .int (nI a) :: st) := g_isub C hdg pc' hp (g_topi _ (pk_sub h) k)
theorem g_idivn (C : gx_C X cc own Ts tys N Rm) {a b : Nat} (hdg : decode cc pc = .ok (.idiv, 1)) (pc' : Nat) (hp : pc + 1 = pc') (ha : a < 2147483648) (h0 : 0 < b) (hb : b < 2147483648) (k : gx X cells slots ws pc' lv (.int (nI (a / b)) :: st)) : gx X cells slots ws pc lv (.int (nI b) :: .int (nI a) :: st) := g_idiv C hdg pc' hp (nI_ne0 h0 (by omega)) (g_topi _ (pk_div (by omega) h0 (by omega)) k)
theorem g_iremn (C : gx_C X cc own Ts tys N Rm) {a b : Nat} (hdg : decode cc pc = .ok (.irem, 1)) (pc' : Nat) (hp : pc + 1 = pc') (ha : a < 2147483648) (h0 : 0 < b) (hb : b < 2147483648) (k : gx X cells slots ws pc' lv (.int (nI (a % b)) :: st)) : gx X cells slots ws pc lv (.int (nI b) :: .int (nI a) :: st) := g_irem C hdg pc' hp (nI_ne0 h0 (by omega)) (g_topi _ (pk_rem (by omega) h0 (by omega)) k)
theorem g_i2ln (C : gx_C X cc own Ts tys N Rm) {a : Nat} (hdg : decode cc pc = .ok (.i2l, 1)) (pc' : Nat) (hp : pc + 1 = pc') (ha : a < 2147483648) (k : gx X cells slots ws pc' lv (.long (lN a) :: st)) : gx X cells slots ws pc lv (.int (nI a) :: st) := g_i2l C hdg pc' hp (nI_l (by omega)) k
theorem g_icmp_eq_n (C : gx_C X cc own Ts tys N Rm) {a b : Nat} {off : Int} (hdg : decode cc pc = .ok (.if_icmp .eq off, 3)) (tgt pc' : Nat) (ht : (pc : Int) + off = (tgt : Int)) (hp : pc + 3 = pc') (ha : a < 2147483648) (hb : b < 2147483648) (kt : a = b → gx X cells slots ws tgt lv st) (kf : a ≠ b → gx X cells slots ws pc' lv st) : gx X cells slots ws pc lv (.int (nI b) :: .int (nI a) :: st) := g_icmp_eq C hdg tgt pc' ht hp (fun h => kt ((nI_eq (by omega) (by omega)).mp h)) (fun h => kf (fun q => h ((nI_eq (by omega) (by omega)).mpr q)))
theorem g_icmp_ne_n (C : gx_C X cc own Ts tys N Rm) {a b : Nat} {off : Int} (hdg : decode cc pc = .ok (.if_icmp .ne off, 3)) (tgt pc' : Nat) (ht : (pc : Int) + off = (tgt : Int)) (hp : pc + 3 = pc') (ha : a < 2147483648) (hb : b < 2147483648) (kt : a ≠ b → gx X cells slots ws tgt lv st) (kf : a = b → gx X cells slots ws pc' lv st) : gx X cells slots ws pc lv (.int (nI b) :: .int (nI a) :: st) := g_icmp_ne C hdg tgt pc' ht hp (fun h => kt (fun q => h ((nI_eq (by omega) (by omega)).mpr q))) (fun h => kf ((nI_eq (by omega) (by omega)).mp h))
theorem g_icmp_lt_n (C : gx_C X cc own Ts tys N Rm) {a b : Nat} {off : Int} (hdg : decode cc pc = .ok (.if_icmp .lt off, 3)) (tgt pc' : Nat) (ht : (pc : Int) + off = (tgt : Int)) (hp : pc + 3 = pc') (ha : a < 2147483648) (hb : b < 2147483648) (kt : a < b → gx X cells slots ws tgt lv st) (kf : b ≤ a → gx X cells slots ws pc' lv st) : gx X cells slots ws pc lv (.int (nI b) :: .int (nI a) :: st) := g_icmp_lt C hdg tgt pc' ht hp (fun h => kt ((nI_ltI (by omega) (by omega)).mp h)) (fun h => kf (Nat.not_lt.mp (fun q => h ((nI_ltI (by omega) (by omega)).mpr q))))
theorem g_icmp_ge_n (C : gx_C X cc own Ts tys N Rm) {a b : Nat} {off : Int} (hdg : decode cc pc = .ok (.if_icmp .ge off, 3)) (tgt pc' : Nat) (ht : (pc : Int) + off = (tgt : Int)) (hp : pc + 3 = pc') (ha : a < 2147483648) (hb : b < 2147483648) (kt : b ≤ a → gx X cells slots ws tgt lv st) (kf : a < b → gx X cells slots ws pc' lv st) : gx X cells slots ws pc lv (.int (nI b) :: .int (nI a) :: st) := g_icmp_ge C hdg tgt pc' ht hp (fun h => kt ((nI_leI (by omega) (by omega)).mp h)) (fun h => kf (Nat.not_le.mp (fun q => h ((nI_leI (by omega) (by omega)).mpr q))))
theorem g_icmp_gt_n (C : gx_C X cc own Ts tys N Rm) {a b : Nat} {off : Int} (hdg : decode cc pc = .ok (.if_icmp .gt off, 3)) (tgt pc' : Nat) (ht : (pc : Int) + off = (tgt : Int)) (hp : pc + 3 = pc') (ha : a < 2147483648) (hb : b < 2147483648) (kt : b < a → gx X cells slots ws tgt lv st) (kf : a ≤ b → gx X cells slots ws pc' lv st) : gx X cells slots ws pc lv (.int (nI b) :: .int (nI a) :: st) := g_icmp_gt C hdg tgt pc' ht hp (fun h => kt ((nI_ltI (by omega) (by omega)).mp h)) (fun h => kf (Nat.not_lt.mp (fun q => h ((nI_ltI (by omega) (by omega)).mpr q))))
theorem g_icmp_le_n (C : gx_C X cc own Ts tys N Rm) {a b : Nat} {off : Int} (hdg : decode cc pc = .ok (.if_icmp .le off, 3)) (tgt pc' : Nat) (ht : (pc : Int) + off = (tgt : Int)) (hp : pc + 3 = pc') (ha : a < 2147483648) (hb : b < 2147483648) (kt : a ≤ b → gx X cells slots ws tgt lv st) (kf : b < a → gx X cells slots ws pc' lv st) : gx X cells slots ws pc lv (.int (nI b) :: .int (nI a) :: st) := g_icmp_le C hdg tgt pc' ht hp (fun h => kt ((nI_leI (by omega) (by omega)).mp h)) (fun h => kf (Nat.not_le.mp (fun q => h ((nI_leI (by omega) (by omega)).mpr q))))
theorem nI_z {a : Nat} (h : a < 2147483648) : nI a = 0 ↔ a = 0 := by rw [← nI_0]; exact nI_eq (by omega) (by omega)
theorem g_if_eq_n (C : gx_C X cc own Ts tys N Rm) {a : Nat} {off : Int} (hdg : decode cc pc = .ok (.ifCond .eq off, 3)) (tgt pc' : Nat) (ht : (pc : Int) + off = (tgt : Int)) (hp : pc + 3 = pc') (ha : a < 2147483648) (kt : a = 0 → gx X cells slots ws tgt lv st) (kf : 0 < a → gx X cells slots ws pc' lv st) : gx X cells slots ws pc lv (.int (nI a) :: st) := g_if_eq C hdg tgt pc' ht hp (fun h => kt ((nI_z ha).mp h)) (fun h => kf (Nat.pos_of_ne_zero (fun q => h ((nI_z ha).mpr q))))
theorem g_if_ne_n (C : gx_C X cc own Ts tys N Rm) {a : Nat} {off : Int} (hdg : decode cc pc = .ok (.ifCond .ne off, 3)) (tgt pc' : Nat) (ht : (pc : Int) + off = (tgt : Int)) (hp : pc + 3 = pc') (ha : a < 2147483648) (kt : 0 < a → gx X cells slots ws tgt lv st) (kf : a = 0 → gx X cells slots ws pc' lv st) : gx X cells slots ws pc lv (.int (nI a) :: st) := g_if_ne C hdg tgt pc' ht hp (fun h => kt (Nat.pos_of_ne_zero (fun q => h ((nI_z ha).mpr q)))) (fun h => kf ((nI_z ha).mp h))
theorem g_if_lt_n (C : gx_C X cc own Ts tys N Rm) {a : Nat} {off : Int} (hdg : decode cc pc = .ok (.ifCond .lt off, 3)) (tgt pc' : Nat) (ht : (pc : Int) + off = (tgt : Int)) (hp : pc + 3 = pc') (ha : a < 2147483648) (kf : gx X cells slots ws pc' lv st) : gx X cells slots ws pc lv (.int (nI a) :: st) := g_if_lt C hdg tgt pc' ht hp (fun h => absurd h (nI_pos (by omega))) (fun _ => kf)
theorem g_if_ge_n (C : gx_C X cc own Ts tys N Rm) {a : Nat} {off : Int} (hdg : decode cc pc = .ok (.ifCond .ge off, 3)) (tgt pc' : Nat) (ht : (pc : Int) + off = (tgt : Int)) (hp : pc + 3 = pc') (ha : a < 2147483648) (kt : gx X cells slots ws tgt lv st) : gx X cells slots ws pc lv (.int (nI a) :: st) := g_if_ge C hdg tgt pc' ht hp (fun _ => kt) (fun h => absurd (nI_pos' (by omega)) h)
theorem g_if_le_n (C : gx_C X cc own Ts tys N Rm) {a : Nat} {off : Int} (hdg : decode cc pc = .ok (.ifCond .le off, 3)) (tgt pc' : Nat) (ht : (pc : Int) + off = (tgt : Int)) (hp : pc + 3 = pc') (ha : a < 2147483648) (kt : a = 0 → gx X cells slots ws tgt lv st) (kf : 0 < a → gx X cells slots ws pc' lv st) : gx X cells slots ws pc lv (.int (nI a) :: st) := g_if_le C hdg tgt pc' ht hp (fun h => kt (Nat.eq_zero_of_not_pos (fun q => nI_nle q (by omega) h))) (fun h => kf (Nat.pos_of_ne_zero (fun q => h (by rw [q]; exact (by decide : nI 0 ≤ 0)))))
theorem g_if_gt_n (C : gx_C X cc own Ts tys N Rm) {a : Nat} {off : Int} (hdg : decode cc pc = .ok (.ifCond .gt off, 3)) (tgt pc' : Nat) (ht : (pc : Int) + off = (tgt : Int)) (hp : pc + 3 = pc') (ha : a < 2147483648) (kt : 0 < a → gx X cells slots ws tgt lv st) (kf : a = 0 → gx X cells slots ws pc' lv st) : gx X cells slots ws pc lv (.int (nI a) :: st) := g_if_gt C hdg tgt pc' ht hp (fun h => kt (Nat.pos_of_ne_zero (fun q => by rw [q] at h; exact absurd h (by decide)))) (fun h => kf (Nat.eq_zero_of_not_pos (fun q => h (by rw [← nI_0]; exact nI_lt q (by omega)))))
theorem g_if_eq_b (C : gx_C X cc own Ts tys N Rm) {b : Bool} {off : Int} (hdg : decode cc pc = .ok (.ifCond .eq off, 3)) (tgt pc' : Nat) (ht : (pc : Int) + off = (tgt : Int)) (hp : pc + 3 = pc') (kt : b = false → gx X cells slots ws tgt lv st) (kf : b = true → gx X cells slots ws pc' lv st) : gx X cells slots ws pc lv (.int (bI b) :: st) := g_if_eq C hdg tgt pc' ht hp (fun h => kt (bI_0.mp h)) (fun h => kf (by cases b; exact absurd rfl h; rfl))
theorem g_if_ne_b (C : gx_C X cc own Ts tys N Rm) {b : Bool} {off : Int} (hdg : decode cc pc = .ok (.ifCond .ne off, 3)) (tgt pc' : Nat) (ht : (pc : Int) + off = (tgt : Int)) (hp : pc + 3 = pc') (kt : b = true → gx X cells slots ws tgt lv st) (kf : b = false → gx X cells slots ws pc' lv st) : gx X cells slots ws pc lv (.int (bI b) :: st) := g_if_ne C hdg tgt pc' ht hp (fun h => kt (by cases b; exact absurd rfl h; rfl)) (fun h => kf (bI_0.mp h))
/-- a compare of longs and the branch behind it -/
theorem g_lc_eq (C : gx_C X cc own Ts tys N Rm) {x y : Int64} {off : Int} (hdg : decode cc pc = .ok (.lcmp, 1)) (pc1 : Nat) (hp1 : pc + 1 = pc1) (hdg1 : decode cc pc1 = .ok (.ifCond .eq off, 3)) (tgt pc' : Nat) (ht : (pc1 : Int) + off = (tgt : Int)) (hp : pc1 + 3 = pc') (kt : x = y → gx X cells slots ws tgt lv st) (kf : ¬ x = y → gx X cells slots ws pc' lv st) : gx X cells slots ws pc lv (.long y :: .long x :: st) := g_lcmp C hdg pc1 hp1 (g_if_eq C hdg1 tgt pc' ht hp (fun h => kt ((lg_cmp_eq x y).mp h)) (fun h => kf (fun q => h ((lg_cmp_eq x y).mpr q))))
theorem g_lc_ne (C : gx_C X cc own Ts tys N Rm) {x y : Int64} {off : Int} (hdg : decode cc pc = .ok (.lcmp, 1)) (pc1 : Nat) (hp1 : pc + 1 = pc1) (hdg1 : decode cc pc1 = .ok (.ifCond .ne off, 3)) (tgt pc' : Nat) (ht : (pc1 : Int) + off = (tgt : Int)) (hp : pc1 + 3 = pc') (kt : ¬ x = y → gx X cells slots ws tgt lv st) (kf : x = y → gx X cells slots ws pc' lv st) : gx X cells slots ws pc lv (.long y :: .long x :: st) := g_lcmp C hdg pc1 hp1 (g_if_ne C hdg1 tgt pc' ht hp (fun h => kt (fun q => h ((lg_cmp_eq x y).mpr q))) (fun h => kf ((lg_cmp_eq x y).mp h)))
theorem g_lc_lt (C : gx_C X cc own Ts tys N Rm) {x y : Int64} {off : Int} (hdg : decode cc pc = .ok (.lcmp, 1)) (pc1 : Nat) (hp1 : pc + 1 = pc1) (hdg1 : decode cc pc1 = .ok (.ifCond .lt off, 3)) (tgt pc' : Nat) (ht : (pc1 : Int) + off = (tgt : Int)) (hp : pc1 + 3 = pc') (kt : x < y → gx X cells slots ws tgt lv st) (kf : ¬ x < y → gx X cells slots ws pc' lv st) : gx X cells slots ws pc lv (.long y :: .long x :: st) := g_lcmp C hdg pc1 hp1 (g_if_lt C hdg1 tgt pc' ht hp (fun h => kt ((lg_cmp_lt x y).mp h)) (fun h => kf (fun q => h ((lg_cmp_lt x y).mpr q))))
theorem g_lc_ge (C : gx_C X cc own Ts tys N Rm) {x y : Int64} {off : Int} (hdg : decode cc pc = .ok (.lcmp, 1)) (pc1 : Nat) (hp1 : pc + 1 = pc1) (hdg1 : decode cc pc1 = .ok (.ifCond .ge off, 3)) (tgt pc' : Nat) (ht : (pc1 : Int) + off = (tgt : Int)) (hp : pc1 + 3 = pc') (kt : y ≤ x → gx X cells slots ws tgt lv st) (kf : ¬ y ≤ x → gx X cells slots ws pc' lv st) : gx X cells slots ws pc lv (.long y :: .long x :: st) := g_lcmp C hdg pc1 hp1 (g_if_ge C hdg1 tgt pc' ht hp (fun h => kt ((lg_cmp_ge x y).mp h)) (fun h => kf (fun q => h ((lg_cmp_ge x y).mpr q))))
theorem g_lc_gt (C : gx_C X cc own Ts tys N Rm) {x y : Int64} {off : Int} (hdg : decode cc pc = .ok (.lcmp, 1)) (pc1 : Nat) (hp1 : pc + 1 = pc1) (hdg1 : decode cc pc1 = .ok (.ifCond .gt off, 3)) (tgt pc' : Nat) (ht : (pc1 : Int) + off = (tgt : Int)) (hp : pc1 + 3 = pc') (kt : y < x → gx X cells slots ws tgt lv st) (kf : ¬ y < x → gx X cells slots ws pc' lv st) : gx X cells slots ws pc lv (.long y :: .long x :: st) := g_lcmp C hdg pc1 hp1 (g_if_gt C hdg1 tgt pc' ht hp (fun h => kt ((lg_cmp_gt x y).mp h)) (fun h => kf (fun q => h ((lg_cmp_gt x y).mpr q))))
theorem g_lc_le (C : gx_C X cc own Ts tys N Rm) {x y : Int64} {off : Int} (hdg : decode cc pc = .ok (.lcmp, 1)) (pc1 : Nat) (hp1 : pc + 1 = pc1) (hdg1 : decode cc pc1 = .ok (.ifCond .le off, 3)) (tgt pc' : Nat) (ht : (pc1 : Int) + off = (tgt : Int)) (hp : pc1 + 3 = pc') (kt : x ≤ y → gx X cells slots ws tgt lv st) (kf : ¬ x ≤ y → gx X cells slots ws pc' lv st) : gx X cells slots ws pc lv (.long y :: .long x :: st) := g_lcmp C hdg pc1 hp1 (g_if_le C hdg1 tgt pc' ht hp (fun h => kt ((lg_cmp_le x y).mp h)) (fun h => kf (fun q => h ((lg_cmp_le x y).mpr q))))
end GXN
end
section
/-! pure words: arrays of naturals, the ways -/
def updN (f : Nat → Nat) (k v : Nat) : Nat → Nat := fun j => if j = k then v else f j
theorem upd_nI (f : Nat → Nat) (k v : Nat) : upd (fun j => nI (f j)) k (nI v) = fun j => nI (updN f k v j) := by
  funext j
  by_cases h : j = k
  · simp [upd, updN, h]
  · simp [upd, updN, h]
theorem nI_dec (a : Nat) (h : 1 ≤ a) : nI a + Int32.ofInt (-1) = nI (a - 1) := by
  obtain ⟨b, rfl⟩ : ∃ b, a = b + 1 := ⟨a - 1, by omega⟩
  rw [show b + 1 - 1 = b by omega]
  exact pk_m1 b
/-- a way is set, both ways round -/
def sw (wy : Nat → Int64) (a b : Nat) (w : Int64) : Nat → Int64 := vp_updL (vp_updL wy (a * 16 + b) w) (b * 16 + a) w
/-- a new node has no way to those ahead of it -/
def swl (wy : Nat → Int64) (n : Nat) : Nat → Nat → Int64
  | 0 => wy
  | k + 1 => sw (swl wy n k) n k (-1)
/-! ===== Int32 by its bits: bt x i ===== -/
def bt (x : Int32) (i : Nat) : Bool := x.toBitVec.getLsbD i
theorem b_ext {x y : Int32} (h : ∀ i, i < 32 → bt x i = bt y i) : x = y := Int32.toBitVec_inj.mp (BitVec.eq_of_getLsbD_eq (fun i hi => h i hi))
theorem b_or (x y : Int32) (i : Nat) : bt (x ||| y) i = (bt x i || bt y i) := by unfold bt; rw [Int32.toBitVec_or, BitVec.getLsbD_or]
theorem b_and (x y : Int32) (i : Nat) : bt (x &&& y) i = (bt x i && bt y i) := by unfold bt; rw [Int32.toBitVec_and, BitVec.getLsbD_and]
theorem b_xor (x y : Int32) (i : Nat) : bt (x ^^^ y) i = (bt x i ^^ bt y i) := by unfold bt; rw [Int32.toBitVec_xor, BitVec.getLsbD_xor]
theorem b_big {x : Int32} {i : Nat} (h : 32 ≤ i) : bt x i = false := BitVec.getLsbD_of_ge _ _ h
theorem b_255 (i : Nat) : bt 255 i = decide (i < 8) := by
  rcases Nat.lt_or_ge i 32 with h | h
  · exact (by decide +kernel : ∀ i, i < 32 → bt 255 i = decide (i < 8)) i h
  · rw [b_big h, decide_eq_false (by omega)]
theorem b_65535 (i : Nat) : bt 65535 i = decide (i < 16) := by
  rcases Nat.lt_or_ge i 32 with h | h
  · exact (by decide +kernel : ∀ i, i < 32 → bt 65535 i = decide (i < 16)) i h
  · rw [b_big h, decide_eq_false (by omega)]
theorem b_m1 : ∀ i, i < 32 → bt (-1) i = true := by decide +kernel
theorem b_0 (i : Nat) : bt 0 i = false := BitVec.getLsbD_zero
theorem s_l : ∀ n, n < 32 → ((nI n &&& 31).toBitVec.smod 32).toNat = n := by decide +kernel
theorem s_u : ∀ n, n < 32 → (((nI n).toUInt32 &&& Int32.toUInt32 31).toBitVec % 32).toNat = n := by decide +kernel
theorem b_shl (n : Nat) (hn : n < 32) (x : Int32) {i : Nat} (hi : i < 32) : bt (x <<< (nI n &&& 31)) i = (decide (n ≤ i) && bt x (i - n)) := by
  unfold bt
  rw [Int32.toBitVec_shiftLeft]
  show (x.toBitVec <<< ((nI n &&& 31).toBitVec.smod 32).toNat).getLsbD i = _
  rw [s_l n hn, BitVec.getLsbD_shiftLeft]
  rcases Nat.lt_or_ge i n with h | h
  · simp [h, Nat.not_le.mpr h]
  · simp [hi, h, Nat.not_lt.mpr h]
theorem b_ushr (n : Nat) (hn : n < 32) (x : Int32) (i : Nat) : bt ((x.toUInt32 >>> ((nI n).toUInt32 &&& Int32.toUInt32 31)).toInt32) i = bt x (n + i) := by
  show (x.toUInt32 >>> ((nI n).toUInt32 &&& Int32.toUInt32 31)).toBitVec.getLsbD i = x.toUInt32.toBitVec.getLsbD (n + i)
  rw [UInt32.toBitVec_shiftRight]
  show (x.toUInt32.toBitVec >>> (((nI n).toUInt32 &&& Int32.toUInt32 31).toBitVec % 32).toNat).getLsbD i = _
  rw [s_u n hn, BitVec.getLsbD_ushiftRight]
theorem b_sshr (n : Nat) (hn : n < 32) (x : Int32) {i : Nat} (hi : i < 32) : bt (x >>> (nI n &&& 31)) i = if n + i < 32 then bt x (n + i) else bt x 31 := by
  unfold bt
  rw [Int32.toBitVec_shiftRight]
  show (x.toBitVec.sshiftRight ((nI n &&& 31).toBitVec.smod 32).toNat).getLsbD i = _
  rw [s_l n hn, BitVec.getLsbD_sshiftRight, BitVec.msb_eq_getLsbD_last]
  simp [hi]
theorem b_shl8 (x : Int32) {i : Nat} (hi : i < 32) : bt (x <<< ((8 : Int32) &&& 31)) i = (decide (8 ≤ i) && bt x (i - 8)) := b_shl 8 (by omega) x hi
theorem b_shl16 (x : Int32) {i : Nat} (hi : i < 32) : bt (x <<< ((16 : Int32) &&& 31)) i = (decide (16 ≤ i) && bt x (i - 16)) := b_shl 16 (by omega) x hi
theorem b_shl24 (x : Int32) {i : Nat} (hi : i < 32) : bt (x <<< ((24 : Int32) &&& 31)) i = (decide (24 ≤ i) && bt x (i - 24)) := b_shl 24 (by omega) x hi
theorem b_sshr8 (x : Int32) {i : Nat} (hi : i < 32) : bt (x >>> ((8 : Int32) &&& 31)) i = if 8 + i < 32 then bt x (8 + i) else bt x 31 := b_sshr 8 (by omega) x hi
theorem b_1 : ∀ i, i < 32 → bt (nI 1) i = decide (i = 0) := by decide +kernel
theorem hb_iff {x : Int32} {n : Nat} (hn : n < 32) : (x >>> (nI n &&& 31)) &&& nI 1 = 0 ↔ bt x n = false := by
  constructor
  · intro h
    have h0 : bt ((x >>> (nI n &&& 31)) &&& nI 1) 0 = false := by rw [h]; exact b_0 0
    rw [b_and, b_sshr n hn x (by omega), if_pos (by omega), b_1 0 (by omega)] at h0
    simpa using h0
  · intro h
    refine b_ext (fun i hi => ?_)
    rw [b_and, b_1 i hi, b_0]
    by_cases h0 : i = 0
    · subst h0
      rw [b_sshr n hn x (by omega), if_pos (by omega)]
      simp [h]
    · simp [h0]
theorem b_one (n : Nat) (hn : n < 32) {i : Nat} (hi : i < 32) : bt (nI 1 <<< (nI n &&& 31)) i = decide (i = n) := by
  rw [b_shl n hn (nI 1) hi]
  by_cases h : n ≤ i
  · rw [b_1 (i - n) (by omega)]
    by_cases h2 : i = n
    · simp [h2]
    · simp [h, h2]; omega
  · have h2 : ¬ i = n := by omega
    simp [h, h2]
/-- the bits of the nodes that a has a way to, below k -/
def tb (wy : Nat → Int64) (a : Nat) : Nat → Int32
  | 0 => nI 0
  | k + 1 => if wy (a * 16 + k) = -1 then tb wy a k else tb wy a k ||| (nI 1 <<< (nI k &&& 31))
def jrow (A B : Int32) (a b : Nat) (len : Int64) (i : Nat) (wy : Nat → Int64) : Nat → Nat → Int64
  | 0 => wy
  | j + 1 => if bt A i = true ∧ bt B j = true then sw (jrow A B a b len i wy j) i j (jrow A B a b len i wy j (i * 16 + a) + len + jrow A B a b len i wy j (b * 16 + j)) else jrow A B a b len i wy j
def jall (A B : Int32) (a b : Nat) (len : Int64) (n : Nat) (wy : Nat → Int64) : Nat → Nat → Int64
  | 0 => wy
  | i + 1 => jrow A B a b len i (jall A B a b len n wy i) n
end
section
/-! rows that make things, and Object's constructor -/
section GXM
variable {X : gxT} {cells slots : Nat} {ws : va_W} {pc : Nat} {lv : List (Nat × Value)} {st : List Value} {cc : ByteArray} {own : String} {Ts : List Cond} {tys : List (ClassId × FieldType)} {N : Nat} {Rm : Room}
theorem g_objInit (C : gx_C X cc own Ts tys N Rm) {idx a : Nat} (h1 : Cond.methodLink own idx objectInit ∈ Ts) (h2 : Cond.instanceMethod objectInit ∈ Ts) (h3 : Cond.code objectInit ⟨#[0xb1]⟩ 1 none ∈ Ts) (hdg : decode cc pc = .ok (.invokespecial idx, 3)) (pc' : Nat) (hp : pc + 3 = pc') (hf : 1 ≤ Rm.frames) (hlo : 0 + (st.map fun v => v.category).sum + 12 ≤ Rm.locals) (k : gx X cells slots ws pc' lv st) : gx X cells slots ws pc lv (.ref a :: st) := by
  obtain ⟨p, l, e, R, s, m, args, below, meth, c, A, D, nL, Q⟩ := X
  subst hp
  have hRm : R = Rm := C.2.2.2.2.2.2.2.2
  subst hRm
  intro H locs ls hP hD hS hl
  exact W.objInit C.1 C.2.1 C.2.2.2.1 (C.2.2.2.2.1 _ h1) (C.2.2.2.2.1 _ h2) (C.2.2.2.2.1 _ h3) rfl (hl.1.trans C.2.2.1.symm) rfl hdg hf hlo (k H locs ls hP hD hS hl)
theorem g_newa_int (C : gx_C X cc own Ts tys N Rm) (t0 : Nat) {cA : ClassId} (ht : tys[t0]? = some (cA, .int)) {n : Nat} (hn : n < 65536) (harr : Cond.arrayClass .int ∈ Ts) (hdg : decode cc pc = .ok (.newarray .int, 2)) (pc' : Nat) (hp : pc + 2 = pc') (hcells : cells + 1 ≤ Rm.cells) (hslots : slots + n ≤ Rm.slots)
    (k : ∀ q : Nat, gx X (cells + 1) (slots + n) (ws ++ [(q, .inl (cA, n, .inl (fun _ => 0)))]) pc' lv (.ref q :: st)) : gx X cells slots ws pc lv (.int (nI n) :: st) := by
  obtain ⟨p, l, e, R, s, m, args, below, meth, c, A, D, nL, Q⟩ := X
  subst hp
  have hRm : R = Rm := C.2.2.2.2.2.2.2.2
  subst hRm
  intro H locs ls hP hD hS hl
  refine va_newa (atype := .int) (ty := .int) (a0 := (n, .inl (fun _ => 0))) C.1 C.2.1 (C.2.2.2.2.1 _ harr) rfl C.2.2.2.2.2.1 hP hD hS C.2.2.2.2.2.2.1 (fun _ => rfl) (nI_pos (by omega)) (nI_clamp (by omega)) (by show n * 4 ≤ _; omega) hcells hslots hdg (fun q cA2 H1 hK2 hP2 hD2 hS2 => ?_)
  have e1 := va_nm_int (C.2.2.2.2.2.1.2 t0 _ ht).2
  have e2 := va_nm_int (hK2.2 tys.length (cA2, .int) (by rw [List.getElem?_append_right (Nat.le_refl _), Nat.sub_self]; rfl)).2
  cases Option.some.inj (e1.symm.trans e2)
  exact k q H1 locs ls hP2 hD2 hS2 hl
theorem g_newa_long (C : gx_C X cc own Ts tys N Rm) (t0 : Nat) {cA : ClassId} (ht : tys[t0]? = some (cA, .long)) {n : Nat} (hn : n < 65536) (harr : Cond.arrayClass .long ∈ Ts) (hdg : decode cc pc = .ok (.newarray .long, 2)) (pc' : Nat) (hp : pc + 2 = pc') (hcells : cells + 1 ≤ Rm.cells) (hslots : slots + n ≤ Rm.slots)
    (k : ∀ q : Nat, gx X (cells + 1) (slots + n) (ws ++ [(q, .inl (cA, n, .inr (.inl (fun _ => 0))))]) pc' lv (.ref q :: st)) : gx X cells slots ws pc lv (.int (nI n) :: st) := by
  obtain ⟨p, l, e, R, s, m, args, below, meth, c, A, D, nL, Q⟩ := X
  subst hp
  have hRm : R = Rm := C.2.2.2.2.2.2.2.2
  subst hRm
  intro H locs ls hP hD hS hl
  refine va_newa (atype := .long) (ty := .long) (a0 := (n, .inr (.inl (fun _ => 0)))) C.1 C.2.1 (C.2.2.2.2.1 _ harr) rfl C.2.2.2.2.2.1 hP hD hS C.2.2.2.2.2.2.1 (fun _ => rfl) (nI_pos (by omega)) (nI_clamp (by omega)) (by show n * 8 ≤ _; omega) hcells hslots hdg (fun q cA2 H1 hK2 hP2 hD2 hS2 => ?_)
  have e1 := va_nm_long (C.2.2.2.2.2.1.2 t0 _ ht).2
  have e2 := va_nm_long (hK2.2 tys.length (cA2, .long) (by rw [List.getElem?_append_right (Nat.le_refl _), Nat.sub_self]; rfl)).2
  cases Option.some.inj (e1.symm.trans e2)
  exact k q H1 locs ls hP2 hD2 hS2 hl
theorem g_newa_boolean (C : gx_C X cc own Ts tys N Rm) (t0 : Nat) {cA : ClassId} (ht : tys[t0]? = some (cA, .boolean)) {n : Nat} (hn : n < 65536) (harr : Cond.arrayClass .boolean ∈ Ts) (hdg : decode cc pc = .ok (.newarray .boolean, 2)) (pc' : Nat) (hp : pc + 2 = pc') (hcells : cells + 1 ≤ Rm.cells) (hslots : slots + n ≤ Rm.slots)
    (k : ∀ q : Nat, gx X (cells + 1) (slots + n) (ws ++ [(q, .inl (cA, n, .inl (fun _ => 0)))]) pc' lv (.ref q :: st)) : gx X cells slots ws pc lv (.int (nI n) :: st) := by
  obtain ⟨p, l, e, R, s, m, args, below, meth, c, A, D, nL, Q⟩ := X
  subst hp
  have hRm : R = Rm := C.2.2.2.2.2.2.2.2
  subst hRm
  intro H locs ls hP hD hS hl
  refine va_newa (atype := .boolean) (ty := .boolean) (a0 := (n, .inl (fun _ => 0))) C.1 C.2.1 (C.2.2.2.2.1 _ harr) rfl C.2.2.2.2.2.1 hP hD hS C.2.2.2.2.2.2.1 (fun _ => rfl) (nI_pos (by omega)) (nI_clamp (by omega)) (by show n * 1 ≤ _; omega) hcells hslots hdg (fun q cA2 H1 hK2 hP2 hD2 hS2 => ?_)
  have e1 := va_nm_boolean (C.2.2.2.2.2.1.2 t0 _ ht).2
  have e2 := va_nm_boolean (hK2.2 tys.length (cA2, .boolean) (by rw [List.getElem?_append_right (Nat.le_refl _), Nat.sub_self]; rfl)).2
  cases Option.some.inj (e1.symm.trans e2)
  exact k q H1 locs ls hP2 hD2 hS2 hl
theorem g_new (C : gx_C X cc own Ts tys N Rm) {Cn : String} {T : u_T} {n ci index : Nat} {fs : List Value} (hin : ∀ w ∈ u_ws Cn T n, w ∈ Ts) (ty : Nat → FieldType) (hty : ∀ k, k < n → parseFieldDescriptor (T k).2.2.1 = some (ty k)) (hcl : Cond.classLink own index Cn ∈ Ts) (hinst : Cond.instantiable Cn n ∈ Ts) (hini : Cond.initialized Cn ∈ Ts) (hc : vwCl[ci]? = some (Cn, T, n)) (hfs : ∀ j, j < n → defaultValue (ty j) = vp_V fs j) (hcells : cells + 1 ≤ Rm.cells) (hslots : slots + n ≤ Rm.slots) (hdg : decode cc pc = .ok (.new index, 3)) (pc' : Nat) (hp : pc + 3 = pc')
    (k : ∀ q : Nat, gx X (cells + 1) (slots + n) (ws ++ [(q, .inr (ci, fs))]) pc' lv (.ref q :: st)) : gx X cells slots ws pc lv st := by
  obtain ⟨p, l, e, R, s, m, args, below, meth, c, A, D, nL, Q⟩ := X
  subst hp
  have hRm : R = Rm := C.2.2.2.2.2.2.2.2
  subst hRm
  intro H locs ls hP hD hS hl
  exact va_new C.1 C.2.1 C.2.2.2.2.1 hin ty hty C.2.2.2.1 (C.2.2.2.2.1 _ hcl) (C.2.2.2.2.1 _ hinst) (C.2.2.2.2.1 _ hini) C.2.2.2.2.2.1 hP hD hS C.2.2.2.2.2.2.1 hc hfs hcells hslots hdg (fun q H1 hP2 hD2 hS2 => k q H1 locs ls hP2 hD2 hS2 hl)
end GXM
end
section
theorem nI_one : nI 1 = 1 := rfl
/-- the first number below n with p -/
def wfind (p : Nat → Bool) : Nat → Option Nat
  | 0 => none
  | n + 1 => match wfind p n with
    | some i => some i
    | none => if p n then some n else none
theorem wfind_none {p : Nat → Bool} : ∀ {n : Nat}, wfind p n = none ↔ ∀ i, i < n → p i = false
  | 0 => ⟨fun _ i h => absurd h (Nat.not_lt_zero i), fun _ => rfl⟩
  | n + 1 => by
    have ih := wfind_none (p := p) (n := n)
    unfold wfind
    cases h : wfind p n with
    | some i =>
      simp only
      constructor
      · intro q; cases q
      · intro q
        have : wfind p n = none := ih.mpr (fun i hi => q i (by omega))
        rw [h] at this; cases this
    | none =>
      simp only
      have h0 := ih.mp h
      cases hp : p n with
      | true => simp; exact ⟨n, by omega, hp⟩
      | false =>
        simp
        intro i hi
        rcases Nat.lt_or_ge i n with q | q
        · exact h0 i q
        · rw [show i = n by omega]; exact hp
theorem wfind_next {p : Nat → Bool} {n : Nat} (h : wfind p n = none) (hp : p n = false) : wfind p (n + 1) = none := by simp [wfind, h, hp]
theorem wfind_at {p : Nat → Bool} {i : Nat} (h : wfind p i = none) (hp : p i = true) : ∀ {n : Nat}, i < n → wfind p n = some i
  | 0, hn => absurd hn (Nat.not_lt_zero i)
  | n + 1, hn => by
    rcases Nat.lt_or_ge i n with q | q
    · simp [wfind, wfind_at h hp q]
    · have e : n = i := by omega
      subst e
      simp [wfind, h, hp]
theorem wfind_some {p : Nat → Bool} : ∀ {n i : Nat}, wfind p n = some i → i < n ∧ p i = true ∧ ∀ j, j < i → p j = false
  | 0, i, h => by cases h
  | n + 1, i, h => by
    unfold wfind at h
    cases hc : wfind p n with
    | some j =>
      rw [hc] at h
      cases h
      obtain ⟨a, b, c⟩ := wfind_some hc
      exact ⟨by omega, b, c⟩
    | none =>
      rw [hc] at h
      simp only at h
      cases hp : p n with
      | false => rw [hp] at h; simp at h
      | true =>
        rw [hp] at h
        simp at h
        subst h
        exact ⟨by omega, hp, wfind_none.mp hc⟩
def oI : Option Nat → Int32
  | none => -1
  | some i => nI i
theorem wI_m1 {p : Nat → Bool} {n : Nat} (hn : n < 2147483648) : oI (wfind p n) = -1 ↔ wfind p n = none := by
  cases h : wfind p n with
  | none => exact ⟨fun _ => rfl, fun _ => rfl⟩
  | some i =>
    have := wfind_some h
    exact ⟨fun q => absurd q (nI_m1 (by omega)), fun q => by cases q⟩
/-- the wire k ends at e -/
def atE (eA eB : Nat → Nat) (e : Nat) : Nat → Bool := fun k => decide (eA k = e) || decide (eB k = e)
/-- the wire i ends at the connector c -/
def eAt (eA eB : Nat → Nat) (i c : Nat) : Bool := decide (eA i / 16 = c) || decide (eB i / 16 = c)
/-- the colours that are taken, of the wires below k -/
def tk (eA eB col : Nat → Nat) (a b : Nat) : Nat → Int32
  | 0 => nI 0
  | k + 1 => if eAt eA eB k a = true ∨ eAt eA eB k b = true then tk eA eB col a b k ||| (nI 1 <<< (nI (col k) &&& 31)) else tk eA eB col a b k
def frc (x : Int32) : Nat := (wfind (fun c => ! bt x c) 24).getD 24
/-- the least area that will do -/
def ltw (ar : Nat → Int64) (p : Nat → Bool) : Nat → Int32 × Int64
  | 0 => (-1, 1000001)
  | k + 1 => if ar k < (ltw ar p k).2 ∧ p k = true then (nI k, ar k) else ltw ar p k
def wdo (ar ma mo : Nat → Int64) (x d cut : Int64) (r : Nat) : Bool := !(decide (ar r ≤ 0)) && !(decide (ma r < x)) && !(decide (d * 1000000000 < x * mo r * cut))
theorem frc_24 {x : Int32} {f : Nat} (h : wfind (fun c => ! bt x c) f = none) (e : f = 24) : nI f = nI (frc x) := by subst e; rw [frc, h]; rfl
theorem frc_at {x : Int32} {f : Nat} (h : wfind (fun c => ! bt x c) f = none) (hb : bt x f = false) (hf : f < 24) : nI f = nI (frc x) := by rw [frc, wfind_at h (by simp [hb]) hf]; rfl
end
section
/-- groups: all of gone go to kept -/
def mg (gr : Nat → Nat) (kept gone : Nat) : Nat → Nat → Nat
  | 0 => gr
  | i + 1 => if mg gr kept gone i i = gone then updN (mg gr kept gone i) i kept else mg gr kept gone i
theorem mg_ge (gr : Nat → Nat) (kept gone : Nat) : ∀ {i j : Nat}, i ≤ j → mg gr kept gone i j = gr j
  | 0, j, _ => rfl
  | i + 1, j, h => by
    unfold mg
    split
    · rw [updN, if_neg (by omega)]; exact mg_ge gr kept gone (by omega)
    · exact mg_ge gr kept gone (by omega)
def gid : Nat → Nat → Nat
  | 0 => fun _ => 0
  | k + 1 => updN (gid k) k k
def pput (pa : Nat → Int32) (a b : Nat) : Nat → Int32 := upd (upd pa a (pa a ||| (nI 1 <<< (nI b &&& 31)))) b (upd pa a (pa a ||| (nI 1 <<< (nI b &&& 31))) b ||| (nI 1 <<< (nI a &&& 31)))
/-- is the wire w on, by what was told of the variants below k -/
def von (tw ow : Nat → Int32) (w : Nat) : Nat → Bool
  | 0 => true
  | k + 1 => if bt (tw k) w = true then bt (ow k) w else von tw ow w k
theorem bI_inj {a b : Bool} : bI a = bI b ↔ a = b := by cases a <;> cases b <;> decide
def cnt (p : Nat → Bool) : Nat → Nat
  | 0 => 0
  | i + 1 => if p i = true then cnt p i else cnt p i + 1
theorem cnt_le (p : Nat → Bool) : ∀ i, cnt p i ≤ i
  | 0 => Nat.le_refl 0
  | i + 1 => by have := cnt_le p i; unfold cnt; split <;> omega
def koff (p : Nat → Bool) (k : Nat) : Nat → Bool := fun i => !(p i) && decide (cnt p i = k)
def owput (ow : Nat → Int32) (v w : Nat) (on : Bool) : Nat → Int32 := upd ow v (if on = true then ow v ||| (nI 1 <<< (nI w &&& 31)) else ow v &&& ((nI 1 <<< (nI w &&& 31)) ^^^ (-1)))
section GXX
variable {X : gxT} {cells slots : Nat} {ws : va_W} {pc : Nat} {lv : List (Nat × Value)} {st : List Value} {cc : ByteArray} {own : String} {Ts : List Cond} {tys : List (ClassId × FieldType)} {N : Nat} {Rm : Room}
theorem g_maxn (C : gx_C X cc own Ts tys N Rm) {index a b : Nat} (h1 : Cond.methodLink own index Lib.Math.max.name ∈ Ts) (h2 : Cond.static Lib.Math.max.name ∈ Ts) (h3 : Cond.initialized "java/lang/Math" ∈ Ts) (h4 : Cond.code Lib.Math.max.name Lib.Math.max.code 2 (some .int) ∈ Ts) (hdg : decode cc pc = .ok (.invokestatic index, 3)) (pc' : Nat) (hp : pc + 3 = pc') (hf : 1 ≤ Rm.frames) (hlo : (st.map fun v => v.category).sum + 13 ≤ Rm.locals) (hc : cells ≤ Rm.cells) (hs : slots ≤ Rm.slots) (ha : a < 2147483648) (hb : b < 2147483648) (k : gx X cells slots ws pc' lv (.int (nI (Nat.max a b)) :: st)) : gx X cells slots ws pc lv (.int (nI b) :: .int (nI a) :: st) := by
  obtain ⟨p, l, e, R, s, m, args, below, meth, c, A, D, nL, Q⟩ := X
  subst hp
  have hRm : R = Rm := C.2.2.2.2.2.2.2.2
  subst hRm
  intro H locs ls hP hD hS hl
  refine va_mmax C.1 C.2.1 (C.2.2.1.trans hl.1.symm) C.2.2.2.1 (C.2.2.2.2.1 _ h1) (C.2.2.2.2.1 _ h2) (C.2.2.2.2.1 _ h3) (C.2.2.2.2.1 _ h4) hf hlo hc hs hdg ?_
  have e1 : (if nI a < nI b then nI b else nI a) = nI (Nat.max a b) := by
    have : nI a < nI b ↔ a < b := nI_ltI (by omega) (by omega)
    by_cases h : a < b
    · rw [if_pos (this.mpr h), show Nat.max a b = b from Nat.max_eq_right (by omega)]
    · rw [if_neg (fun q => h (this.mp q)), show Nat.max a b = a from Nat.max_eq_left (by omega)]
  rw [e1]
  exact k H locs ls hP hD hS hl
end GXX
end
section
theorem dJ7_fill_d0a16_0 : decode cJ7_fill_d0a16 0 = .ok (.iconst 0, 1) := by decide +kernel
theorem dJ7_fill_d0a16_1 : decode cJ7_fill_d0a16 1 = .ok (.istore_n 3, 1) := by decide +kernel
theorem dJ7_fill_d0a16_2 : decode cJ7_fill_d0a16 2 = .ok (.aload_n 0, 1) := by decide +kernel
theorem dJ7_fill_d0a16_3 : decode cJ7_fill_d0a16 3 = .ok (.arraylength, 1) := by decide +kernel
theorem dJ7_fill_d0a16_4 : decode cJ7_fill_d0a16 4 = .ok (.istore 4, 2) := by decide +kernel
theorem dJ7_fill_d0a16_6 : decode cJ7_fill_d0a16 6 = .ok (.iload_n 3, 1) := by decide +kernel
theorem dJ7_fill_d0a16_7 : decode cJ7_fill_d0a16 7 = .ok (.iload 4, 2) := by decide +kernel
theorem dJ7_fill_d0a16_9 : decode cJ7_fill_d0a16 9 = .ok (.if_icmp .ge 13, 3) := by decide +kernel
theorem dJ7_fill_d0a16_12 : decode cJ7_fill_d0a16 12 = .ok (.aload_n 0, 1) := by decide +kernel
theorem dJ7_fill_d0a16_13 : decode cJ7_fill_d0a16 13 = .ok (.iload_n 3, 1) := by decide +kernel
theorem dJ7_fill_d0a16_14 : decode cJ7_fill_d0a16 14 = .ok (.lload_n 1, 1) := by decide +kernel
theorem dJ7_fill_d0a16_15 : decode cJ7_fill_d0a16 15 = .ok (.lastore, 1) := by decide +kernel
theorem dJ7_fill_d0a16_16 : decode cJ7_fill_d0a16 16 = .ok (.iinc 3 1, 3) := by decide +kernel
theorem dJ7_fill_d0a16_19 : decode cJ7_fill_d0a16 19 = .ok (.goto (-13), 3) := by decide +kernel
theorem dJ7_fill_d0a16_22 : decode cJ7_fill_d0a16 22 = .ok (.return_, 1) := by decide +kernel
theorem dJ7_fill_53178_0 : decode cJ7_fill_53178 0 = .ok (.iconst 0, 1) := by decide +kernel
theorem dJ7_fill_53178_1 : decode cJ7_fill_53178 1 = .ok (.istore_n 2, 1) := by decide +kernel
theorem dJ7_fill_53178_2 : decode cJ7_fill_53178 2 = .ok (.aload_n 0, 1) := by decide +kernel
theorem dJ7_fill_53178_3 : decode cJ7_fill_53178 3 = .ok (.arraylength, 1) := by decide +kernel
theorem dJ7_fill_53178_4 : decode cJ7_fill_53178 4 = .ok (.istore_n 3, 1) := by decide +kernel
theorem dJ7_fill_53178_5 : decode cJ7_fill_53178 5 = .ok (.iload_n 2, 1) := by decide +kernel
theorem dJ7_fill_53178_6 : decode cJ7_fill_53178 6 = .ok (.iload_n 3, 1) := by decide +kernel
theorem dJ7_fill_53178_7 : decode cJ7_fill_53178 7 = .ok (.if_icmp .ge 13, 3) := by decide +kernel
theorem dJ7_fill_53178_10 : decode cJ7_fill_53178 10 = .ok (.aload_n 0, 1) := by decide +kernel
theorem dJ7_fill_53178_11 : decode cJ7_fill_53178 11 = .ok (.iload_n 2, 1) := by decide +kernel
theorem dJ7_fill_53178_12 : decode cJ7_fill_53178 12 = .ok (.iload_n 1, 1) := by decide +kernel
theorem dJ7_fill_53178_13 : decode cJ7_fill_53178 13 = .ok (.iastore, 1) := by decide +kernel
theorem dJ7_fill_53178_14 : decode cJ7_fill_53178 14 = .ok (.iinc 2 1, 3) := by decide +kernel
theorem dJ7_fill_53178_17 : decode cJ7_fill_53178 17 = .ok (.goto (-12), 3) := by decide +kernel
theorem dJ7_fill_53178_20 : decode cJ7_fill_53178 20 = .ok (.return_, 1) := by decide +kernel
end
section
section GXL
variable {X : gxT} {cells slots : Nat} {ws : va_W} {pc : Nat} {lv : List (Nat × Value)} {st : List Value} {cc : ByteArray} {own : String} {Ts : List Cond} {tys : List (ClassId × FieldType)} {N : Nat} {Rm : Room}
theorem g_alen (C : gx_C X cc own Ts tys N Rm) (q0 t0 : Nat) {cA : ClassId} {a n : Nat} {x : vp_A} {ty : FieldType} (ha : ws[q0]? = some (a, .inl (cA, x))) (ht : tys[t0]? = some (cA, ty)) (hn : x.1 = n) (hdg : decode cc pc = .ok (.arraylength, 1)) (pc' : Nat) (hp : pc + 1 = pc') (k : gx X cells slots ws pc' lv (.int (nI n) :: st)) : gx X cells slots ws pc lv (.ref a :: st) := by
  obtain ⟨p, l, e, R, s, m, args, below, meth, c, A, D, nL, Q⟩ := X
  subst hp
  subst hn
  exact fun H locs ls hP hD hS hl => va_alen C.1 C.2.1 C.2.2.2.2.2.1 hP q0 t0 ha ht rfl hdg (k H locs ls hP hD hS hl)
end GXL
def fll (f : Nat → Int32) (v : Int32) : Nat → Nat → Int32
  | 0 => f
  | k + 1 => upd (fll f v k) k v
def fllL (f : Nat → Int64) (v : Int64) : Nat → Nat → Int64
  | 0 => f
  | k + 1 => vp_updL (fllL f v k) k v
/-- room on the reel r for the piece p -/
def rmr (rl : Int64) (fi cu : Nat → Int64) (p r : Nat) : Bool := !(decide (rl < fi r + cu p))
/-- the longest piece that isn't packed, of several the first -/
def lgl (rq : Nat → Int32) (wp : Nat → Nat) (cu : Nat → Int64) : Nat → Option Nat
  | 0 => none
  | i + 1 => match lgl rq wp cu i with
    | none => if rq (wp i) = -1 then some i else none
    | some j => if rq (wp i) = -1 ∧ cu j < cu i then some i else some j
theorem lgl_lt {rq : Nat → Int32} {wp : Nat → Nat} {cu : Nat → Int64} : ∀ {i j : Nat}, lgl rq wp cu i = some j → j < i
  | 0, j, h => by cases h
  | i + 1, j, h => by
    unfold lgl at h
    cases hc : lgl rq wp cu i with
    | none =>
      rw [hc] at h
      simp only at h
      split at h
      · cases h; omega
      · cases h
    | some k =>
      have := lgl_lt hc
      rw [hc] at h
      simp only at h
      split at h
      · cases h; omega
      · cases h; omega
/-- one step of the packing of the longest first -/
def plf1 (rl : Int64) (wp : Nat → Nat) (cu : Nat → Int64) (np : Nat) (s : Nat × (Nat → Int32) × (Nat → Int64)) : Option (Nat × (Nat → Int32) × (Nat → Int64)) :=
  match lgl s.2.1 wp cu np with
  | none => none
  | some p => match wfind (rmr rl s.2.2 cu p) 24 with
    | none => none
    | some r => some (Nat.max s.1 (r + 1), upd s.2.1 (wp p) (nI r), vp_updL s.2.2 r (s.2.2 r + cu p))
def plf (rl : Int64) (wp : Nat → Nat) (cu : Nat → Int64) (np : Nat) (s0 : Nat × (Nat → Int32) × (Nat → Int64)) : Nat → Nat × (Nat → Int32) × (Nat → Int64)
  | 0 => s0
  | t + 1 => (plf1 rl wp cu np (plf rl wp cu np s0 t)).getD (plf rl wp cu np s0 t)
theorem plf_stuck {rl : Int64} {wp : Nat → Nat} {cu : Nat → Int64} {np : Nat} {s0 : Nat × (Nat → Int32) × (Nat → Int64)} {t : Nat} (h : plf1 rl wp cu np (plf rl wp cu np s0 t) = none) : ∀ k, plf rl wp cu np s0 (t + k) = plf rl wp cu np s0 t
  | 0 => rfl
  | k + 1 => by
    have ih := plf_stuck h k
    show (plf1 rl wp cu np (plf rl wp cu np s0 (t + k))).getD (plf rl wp cu np s0 (t + k)) = _
    rw [ih, h]
    rfl
def kt (rq : Nat → Int32) (wp tr : Nat → Nat) : Nat → Nat → Int32
  | 0 => rq
  | i + 1 => upd (kt rq wp tr i) (wp i) (nI (tr i))
/-- the search: the state is (trial, fewest, reels of the wires) -/
abbrev psT : Type := (Nat → Nat) × Nat × (Nat → Int32)
def ploop (f : Nat → psT → psT) : Nat → psT → psT
  | 0, s => s
  | k + 1, s => f k (ploop f k s)
def pfS (np : Nat) (rl : Int64) (cu : Nat → Int64) (wp : Nat → Nat) : Nat → Nat → Nat → (Nat → Int64) → psT → psT
  | 0, _, used, _, s => if s.2.1 ≤ used then s else (s.1, used, kt s.2.2 wp s.1 np)
  | d + 1, piece, used, fi, s => if s.2.1 ≤ used then s else
      ploop (fun r s => if rmr rl fi cu piece r = true then pfS np rl cu wp d (piece + 1) (Nat.max used (r + 1)) (vp_updL fi r (fi r + cu piece)) (updN s.1 piece r, s.2.1, s.2.2) else s) (used + 1) s
def poS (np : Nat) (rl : Int64) (cu : Nat → Int64) (wp : Nat → Nat) (d piece used : Nat) (fi : Nat → Int64) (r : Nat) (s : psT) : psT := if rmr rl fi cu piece r = true then pfS np rl cu wp d (piece + 1) (Nat.max used (r + 1)) (vp_updL fi r (fi r + cu piece)) (updN s.1 piece r, s.2.1, s.2.2) else s
theorem pfS_succ (np : Nat) (rl : Int64) (cu : Nat → Int64) (wp : Nat → Nat) (d piece used : Nat) (fi : Nat → Int64) (s : psT) : pfS np rl cu wp (d + 1) piece used fi s = if s.2.1 ≤ used then s else ploop (poS np rl cu wp d piece used fi) (used + 1) s := rfl
theorem updL_back (f : Nat → Int64) (r : Nat) (x : Int64) : vp_updL (vp_updL f r (f r + x)) r (vp_updL f r (f r + x) r - x) = f := by
  funext j
  by_cases h : j = r
  · subst h
    simp [vp_updL, Int64.add_sub_cancel]
  · simp [vp_updL, h]
/-- how many reels are ever wanted: the search never says more than it began with -/
theorem pfS_fw (np : Nat) (rl : Int64) (cu : Nat → Int64) (wp : Nat → Nat) : ∀ (d piece used : Nat) (fi : Nat → Int64) (s : psT), (pfS np rl cu wp d piece used fi s).2.1 ≤ s.2.1
  | 0, piece, used, fi, s => by
    unfold pfS
    split
    · exact Nat.le_refl _
    · dsimp only; omega
  | d + 1, piece, used, fi, s => by
    rw [pfS_succ]
    split
    · exact Nat.le_refl _
    · have h : ∀ k, (ploop (poS np rl cu wp d piece used fi) k s).2.1 ≤ s.2.1 := by
        intro k
        induction k with
        | zero => exact Nat.le_refl _
        | succ k ih =>
          show (poS np rl cu wp d piece used fi k (ploop (poS np rl cu wp d piece used fi) k s)).2.1 ≤ _
          unfold poS
          split
          · exact Nat.le_trans (pfS_fw np rl cu wp d _ _ _ _) ih
          · exact ih
      exact h _
theorem poS_fw (np : Nat) (rl : Int64) (cu : Nat → Int64) (wp : Nat → Nat) (d piece used : Nat) (fi : Nat → Int64) (r : Nat) (s : psT) : (poS np rl cu wp d piece used fi r s).2.1 ≤ s.2.1 := by
  unfold poS
  split
  · exact pfS_fw np rl cu wp d _ _ _ _
  · exact Nat.le_refl _
end
section
abbrev xIO : String := "java/lang/IndexOutOfBoundsException"
abbrev xIA : String := "java/lang/IllegalArgumentException"
abbrev xNm : List String := ["java/lang/RuntimeException", "java/lang/Exception"]
/-- the words of a throw that aren't good ones -/
def thW : List Cond := [.declares (Bundle.initS "java/lang/RuntimeException"), .declares (Bundle.initS "java/lang/Exception"), .declares (Bundle.initS Bundle.tN), .castable xIO xIO, .castable xIA xIA]
theorem thW_on : ∀ w ∈ thW, w.onTables = true := by
  intro w h
  simp only [thW, List.mem_cons, List.not_mem_nil, or_false] at h
  rcases h with rfl | rfl | rfl | rfl | rfl <;> rfl
theorem thW_warm {s U : State} (hW : s.WarmedH U.vm) (h : ∀ w ∈ thW, va_Nw w s) : ∀ w ∈ thW, va_Nw w U := by
  intro w hw
  have h0 := h w hw
  simp only [thW, List.mem_cons, List.not_mem_nil, or_false] at hw
  rcases hw with rfl | rfl | rfl | rfl | rfl
  · exact va_Nw.warmD hW h0
  · exact va_Nw.warmD hW h0
  · exact va_Nw.warmD hW h0
  · exact va_Nw.warmC hW h0
  · exact va_Nw.warmC hW h0
/-- what a throw needs of the launch, the statics and the texts -/
def thr (l : Launch) (A : Nat → Prop) (U : State) (H : Heap) : Prop := l.stackTraces = false ∧ vx_Zq Bundle.tN "UNASSIGNED_STACK" Bundle.steD A U H ∧ vx_Zq Bundle.tN "SUPPRESSED_SENTINEL" Bundle.listD A U H ∧ (∃ sa, vk_R RX6 192 "there is no such number" sa U) ∧ (∃ sa, vk_R RX6 201 "a number is out of its range" sa U) ∧ (∃ sa, vk_R RX6 197 "an index is below 0" sa U) ∧ ∀ w ∈ thW, va_Nw w U
theorem thr.to {l : Launch} {A B : Nat → Prop} {s U : State} {H : Heap} {locs : List Loc} (h : thr l A s s.heap) (hS : va_S A s.heap H locs) (hB : ∀ q, B q → A q) (hU : U.heap = H) (hW : s.WarmedH U.vm) : thr l B U U.heap := by
  obtain ⟨h1, h2, h3, ⟨a4, h4⟩, ⟨a5, h5⟩, ⟨a6, h6⟩, h7⟩ := h
  rw [hU]
  exact ⟨h1, ((h2.kept hS.2.1).narrow hB).moved hW.alike, ((h3.kept hS.2.1).narrow hB).moved hW.alike, ⟨a4, h4.warm hW⟩, ⟨a5, h5.warm hW⟩, ⟨a6, h6.warm hW⟩, thW_warm hW h7⟩
theorem thr.blind {l : Launch} {A : Nat → Prop} {U : State} (a : Array Value) (g : JFrame) (mk : MethodId) (h : thr l A U U.heap) : thr l A (U.calling g mk a) (U.calling g mk a).heap := by
  obtain ⟨h1, h2, h3, ⟨a4, h4⟩, ⟨a5, h5⟩, ⟨a6, h6⟩, h7⟩ := h
  exact ⟨h1, h2.moved (U := U.calling g mk a) (Vm.Alike.refl U.vm), h3.moved (U := U.calling g mk a) (Vm.Alike.refl U.vm), ⟨a4, vk_R.same rfl h4⟩, ⟨a5, vk_R.same rfl h5⟩, ⟨a6, vk_R.same rfl h6⟩, fun w hw => va_Nw.same (u := U) (U := U.calling g mk a) (thW_on w hw) rfl (h7 w hw)⟩
/-- a world behind a throw: as it was -/
abbrev qX (D : va_G) (tys : List (ClassId × FieldType)) (A : Nat → Prop) (WX : va_W) (xp : String → Prop) : String → Unit → State → Prop := fun E _ t => xp E ∧ va_P D vwCl WX t.heap ∧ va_K D vwCl tys t ∧ va_D A WX
abbrev xX (D : va_G) (tys : List (ClassId × FieldType)) (A : Nat → Prop) (WX : va_W) (xp : String → Prop) : String → State → State → Prop := vx_X (fun _ : Unit => True) (qX D tys A WX xp) A
/-- what a throwing callee's premise is -/
abbrev pT (l : Launch) (nw : List (String × Nat × MethodName × String)) (WS : va_W) (sz : Nat) : State → Prop := fun U => nst nw U ∧ thr l (va_A WS sz) U U.heap
def gx_noX (X : gxT) : Prop := ∀ x ∈ X.2.2.2.2.2.2.2.2.2.1.exceptionTable.toList, False
def gx_QX (X : gxT) (ret : Option FieldType) (Qc : Array Value → State → Outcome → State → Prop) (XC : String → State → State → Prop) (mc ms : Nat) : Prop :=
  match X with
  | (_, _, _, _, s, _, args, below, meth, _, A, _, _, Q) => meth.sig.returnType = ret ∧ meth.locks = false ∧ Q = vx_MQ below Qc XC args s mc ms A
theorem gx_metX {l : Launch} {y : MethodName} {Ts ws' : List Cond} {rm : Room} {av : List Value} {D : va_G} {tys : List (ClassId × FieldType)} {WS : va_W} {XP : State → Prop} {sz : Nat} {Qc : Array Value → State → Outcome → State → Prop} {XC : String → State → State → Prop} {mc ms : Nat} {cc : ByteArray} {maxL : Nat} {ret : Option FieldType} (own : String) (ho : y.cls = own) (hy : plainName y.cls = true) (hw : Ts = Cond.code y cc maxL ret :: ws') (hlen : (lg_sl av).length ≤ maxL)
    (body : ∀ X : gxT, gx_l X = l → gx_D X = D → gx_A X = va_A WS sz → gx_C X cc own Ts tys maxL rm → gx_QX X ret Qc XC mc ms → gx_noX X → XP (gx_s X) → (gx_s X).heap.size = sz → (y.name = "<init>" → gx_init X) → gx X 0 0 WS 0 (lv_args 0 av) []) :
    vx_Met l y Ts rm (va_Pc av (pW D tys WS XP sz)) Qc XC mc ms (va_A WS sz) := by
  refine vx_ofW (cc := cc) (maxL := maxL) (ret := ret) hy hw ?_
  intro p e s m args below meth c s₁ B hml hno hv
  obtain ⟨rfl, hsz, hP, hK, hD0, hX⟩ := hv
  subst hsz
  have hown : s.vm.findClass own = some m.cls := by rw [← ho]; exact findClass_of_methodNamed B.named
  have hin : y.name = "<init>" → meth.name = "<init>" := fun h => by rw [← h]; exact (name_of_methodNamed B.named B.method).1
  have hl := lv_entry av (n := maxL) hlen
  rw [lg_entry_eq]
  exact body (p, l, e, (headSpec Ts rm).room, s, m, av.toArray, below, meth, c, va_A WS s.heap.size, D, maxL, vx_MQ below Qc XC av.toArray s mc ms (va_A WS s.heap.size)) rfl rfl rfl
    ⟨B.exec, B.bytes, hml, hown, atoms_spec (ws := Ts) B.pre, hK, fun q h => Or.inr h, rfl, rfl⟩ ⟨B.returns, B.notSynchronized, rfl⟩ hno hX rfl hin _ _ _ hP (hD0.self (sz := s.heap.size)) va_S.rf hl
/-- what a throwing callee's premise needs of the caller -/
def gx_XPs (X : gxT) (WC : va_W) (XP : Nat → State → Prop) : Prop := (∀ (sz : Nat) (a : Array Value) (U : State) (g : JFrame) (mk : MethodId), XP sz U → XP sz (U.calling g mk a)) ∧ ∀ (H : Heap) (locs : List Loc) (U : State), va_S (gx_A X) (gx_s X).heap H locs → (∀ q, va_A WC H.size q → gx_A X q) → U.heap = H → (gx_s X).WarmedH U.vm → XP H.size U
theorem gx_thr {X : gxT} {nw nw' : List (String × Nat × MethodName × String)} {WC : va_W} (h : nst nw (gx_s X) ∧ thr (gx_l X) (gx_A X) (gx_s X) (gx_s X).heap) (hs : ∀ q ∈ nw', q ∈ nw) : gx_XPs X WC (fun sz => pT (gx_l X) nw' WC sz) :=
  ⟨fun _ a _ g mk q => ⟨fun q9 h9 => q.1 q9 h9, q.2.blind a g mk⟩, fun _ _ _ hS hB hU hW => ⟨(gx_nst h.1 hs).2 _ _ _ hS hU hW, h.2.to hS hB hU hW⟩⟩
section GXT
variable {X : gxT} {cells slots : Nat} {ws : va_W} {pc : Nat} {lv : List (Nat × Value)} {st : List Value} {cc : ByteArray} {own : String} {Ts : List Cond} {tys : List (ClassId × FieldType)} {N : Nat} {Rm : Room}
theorem g_iretX {S : Type} {post : Int32 → S → Prop} {W1 : S → va_W} {XC : String → State → State → Prop} {mc ms : Nat} {v : Int32} (C : gx_C X cc own Ts tys N Rm) (hQ : gx_QX X (some .int) (va_Qi post (qW (gx_D X) tys (gx_A X) W1) (gx_A X)) XC mc ms) (hc : cells ≤ mc) (hs : slots ≤ ms) (hdg : decode cc pc = .ok (.ireturn, 1)) (u : S) (hu : post v u) (hw : ws = W1 u) : gx X cells slots ws pc lv [.int v] := by
  obtain ⟨p, l, e, R, s, m, args, below, meth, c, A, D, nL, Q⟩ := X
  obtain ⟨hr, hlocks, hQe⟩ := hQ
  have hQe : Q = vx_MQ below (va_Qi post (qW D tys A W1) A) XC args s mc ms A := hQe
  subst hQe
  subst hw
  refine g_widen hc hs ?_
  intro H locs ls hP hD hS hl
  exact vx_ret (W.iret (v := v) C.1 C.2.1 hr (fun t ht hW => ⟨⟨v, u, rfl, hu, by rw [ht]; exact hP, va_K.moved hW.alike C.2.2.2.2.2.1, hD⟩, hS.F ht⟩) hS.2.2 hdg)
theorem g_lretX {S : Type} {post : Int64 → S → Prop} {W1 : S → va_W} {XC : String → State → State → Prop} {mc ms : Nat} {v : Int64} (C : gx_C X cc own Ts tys N Rm) (hQ : gx_QX X (some .long) (va_Ql post (qW (gx_D X) tys (gx_A X) W1) (gx_A X)) XC mc ms) (hc : cells ≤ mc) (hs : slots ≤ ms) (hdg : decode cc pc = .ok (.lreturn, 1)) (u : S) (hu : post v u) (hw : ws = W1 u) : gx X cells slots ws pc lv [.long v] := by
  obtain ⟨p, l, e, R, s, m, args, below, meth, c, A, D, nL, Q⟩ := X
  obtain ⟨hr, hlocks, hQe⟩ := hQ
  have hQe : Q = vx_MQ below (va_Ql post (qW D tys A W1) A) XC args s mc ms A := hQe
  subst hQe
  subst hw
  refine g_widen hc hs ?_
  intro H locs ls hP hD hS hl
  exact vx_ret (W.lret (v := v) C.1 C.2.1 hr (fun t ht hW => ⟨⟨v, u, rfl, hu, by rw [ht]; exact hP, va_K.moved hW.alike C.2.2.2.2.2.1, hD⟩, hS.F ht⟩) hS.2.2 hdg)
theorem g_zretX {S : Type} {post : Int32 → S → Prop} {W1 : S → va_W} {XC : String → State → State → Prop} {mc ms : Nat} {v : Int32} (C : gx_C X cc own Ts tys N Rm) (hQ : gx_QX X (some .boolean) (va_Qi post (qW (gx_D X) tys (gx_A X) W1) (gx_A X)) XC mc ms) (hc : cells ≤ mc) (hs : slots ≤ ms) (hdg : decode cc pc = .ok (.ireturn, 1)) (hn : narrow .boolean (.int v) = .int v) (u : S) (hu : post v u) (hw : ws = W1 u) : gx X cells slots ws pc lv [.int v] := by
  obtain ⟨p, l, e, R, s, m, args, below, meth, c, A, D, nL, Q⟩ := X
  obtain ⟨hr, hlocks, hQe⟩ := hQ
  have hQe : Q = vx_MQ below (va_Qi post (qW D tys A W1) A) XC args s mc ms A := hQe
  subst hQe
  subst hw
  refine g_widen hc hs ?_
  intro H locs ls hP hD hS hl
  exact vx_ret (W.zret (v := v) C.1 C.2.1 hr hn (fun t ht hW => ⟨⟨v, u, rfl, hu, by rw [ht]; exact hP, va_K.moved hW.alike C.2.2.2.2.2.1, hD⟩, hS.F ht⟩) hS.2.2 hdg)
theorem g_vretX {S : Type} {post : S → Prop} {W1 : S → va_W} {XC : String → State → State → Prop} {mc ms : Nat} (C : gx_C X cc own Ts tys N Rm) (hQ : gx_QX X none (va_Qv post (qW (gx_D X) tys (gx_A X) W1) (gx_A X)) XC mc ms) (hc : cells ≤ mc) (hs : slots ≤ ms) (hdg : decode cc pc = .ok (.return_, 1)) (u : S) (hu : post u) (hw : ws = W1 u) : gx X cells slots ws pc lv [] := by
  obtain ⟨p, l, e, R, s, m, args, below, meth, c, A, D, nL, Q⟩ := X
  obtain ⟨hr, hlocks, hQe⟩ := hQ
  have hQe : Q = vx_MQ below (va_Qv post (qW D tys A W1) A) XC args s mc ms A := hQe
  subst hQe
  subst hw
  refine g_widen hc hs ?_
  intro H locs ls hP hD hS hl
  exact vx_ret (W.vret C.1 C.2.1 hr (fun t ht hW => ⟨⟨u, rfl, hu, by rw [ht]; exact hP, va_K.moved hW.alike C.2.2.2.2.2.1, hD⟩, hS.F ht⟩) hS.2.2 hdg)
/-- throw new E("text"): the world is as it is -/
theorem g_throwS {ret : Option FieldType} {Qc : Array Value → State → Outcome → State → Prop} {WX : va_W} {xp : String → Prop} {mc ms : Nat} {cls text : String} {ik is ic : Nat} (C : gx_C X cc own Ts tys N Rm) (hQ : gx_QX X ret Qc (xX (gx_D X) tys (gx_A X) WX xp) mc ms) (hno : gx_noX X) (hT : thr (gx_l X) (gx_A X) (gx_s X) (gx_s X).heap)
    (hcls : Bundle.fit cls = true) (hk : Cond.classLink own ik cls ∈ Ts) (hini : Cond.initialized cls ∈ Ts) (hstr : ∃ sa, vk_R own is text sa (gx_s X)) (hat : ∀ w ∈ (vx_atS own ic cls xNm).filter goodWord, w ∈ Ts) (hbad : ∀ w ∈ (vx_atS own ic cls xNm).filter (fun w => !goodWord w), w ∈ thW) (hot : ∀ w ∈ Cond.classLink own ik cls :: Cond.initialized cls :: vx_atS own ic cls xNm, vx_ot w = true)
    (d0 : decode cc pc = .ok (.new ik, 3)) (d3 : decode cc (pc + 3) = .ok (.dup, 1)) (d4 : decode cc (pc + 4) = .ok (.ldc is, 2)) (d6 : decode cc (pc + 6) = .ok (.invokespecial ic, 3)) (d9 : decode cc (pc + 9) = .ok (.athrow, 1))
    (hRf : 5 < Rm.frames) (hRl : (st.map fun v => v.category).sum + 82 ≤ Rm.locals) (hRc : cells + 1 ≤ Rm.cells) (hRs : slots + 6 ≤ Rm.slots) (hc : cells + 1 ≤ mc) (hs : slots + 6 ≤ ms) (hw : ws = WX) (hxp : xp cls) : gx X cells slots ws pc lv st := by
  obtain ⟨p, l, e, R, s, m, args, below, meth, c, A, D, nL, Q⟩ := X
  subst hw
  have hRm : R = Rm := C.2.2.2.2.2.2.2.2
  subst hRm
  obtain ⟨hr, hlocks, hQe⟩ := hQ
  have hQe : Q = vx_MQ below Qc (xX D tys A ws xp) args s mc ms A := hQe
  subst hQe
  obtain ⟨sa, hsa⟩ := hstr
  intro H locs ls hP hD hS hl
  refine vx_throwS (names := xNm) C.1 C.2.1 hT.1 C.2.2.2.1 hcls (by decide +kernel) (C.2.2.2.2.1 _ hk) (C.2.2.2.2.1 _ hini) hsa
    (vx_hat (fun w h => C.2.2.2.2.1 w (hat w h)) hbad (fun w h => va_Nw.use (thW_on w h) (hT.2.2.2.2.2.2 w h))) hot hT.2.1 hT.2.2.1 hS (hl.1.trans C.2.2.1.symm) d0 d3 d4 d6 d9 (fun x hx => (hno x hx).elim) hRf hRl hRc hRs hlocks ?_ hS.2.2 hc hs
  intro t hvm hz hk9
  refine ⟨(), trivial, ⟨hxp, ?_, va_K.moved hvm C.2.2.2.2.2.1, hD⟩, ?_⟩
  · exact hP.kept (fun k q hq => hk9 q.1 ((hP k q hq).lt))
  · exact ⟨Nat.le_trans hS.1 hz, fun q h1 h2 => (hk9 q (Nat.lt_of_lt_of_le h1 hS.1)).trans (hS.2.1 q h1 h2)⟩
/-- a call that returns nothing or throws; what is thrown goes on to the caller -/
theorem g_callVvX {S : Type} (C : gx_C X cc own Ts tys N Rm) {y : MethodName} {wsY wsY' : List Cond} {rm : Room} {As rest : List Value} {WC : va_W} {W1 : S → va_W} {XP : Nat → State → Prop} {post : S → Prop} {xpc : String → Prop} {mc ms index maxL : Nat} {bytes : ByteArray} {b : Nat} {Cn : String} {Tn : u_T} {Nn ci q0 : Nat} {fs : List Value} {retY : Option FieldType} {ret : Option FieldType} {Qc : Array Value → State → Outcome → State → Prop} {WX : va_W} {xp : String → Prop} {mcX msX : Nat} (hQ : gx_QX X ret Qc (xX (gx_D X) tys (gx_A X) WX xp) mcX msX) (hno : gx_noX X)
    (hM : ∀ sz, vx_Met (gx_l X) y wsY rm (va_Pc (.ref b :: As) (pW (gx_D X) tys WC (XP sz) sz)) (va_Qv post (qW (gx_D X) tys (va_A WC sz) W1) (va_A WC sz)) (xX (gx_D X) tys (va_A WC sz) WC xpc) mc ms (va_A WC sz)) (hXP : gx_XPs X WC XP)
    (n : Nat) (hg : GoodIn Ts (wsV own index Cn y wsY)) (hw : wsY = Cond.code y bytes maxL retY :: wsY') (hrc : rm.cells = mc) (hrs : rm.slots = ms) (hd : y.cls = Cn ∧ y.cls ≠ "java/lang/invoke/MethodHandle" ∧ y.cls ≠ "java/lang/invoke/VarHandle" ∧ (parseMethodDescriptor y.desc).map (fun d => d.parameters.length) = some n) (hR : rm.frames + 1 ≤ Rm.frames ∧ 8 + (maxL + 11) + rm.locals ≤ Rm.locals)
    (hci : vwCl[ci]? = some (Cn, Tn, Nn)) (hq0 : WC[q0]? = some (b, .inr (ci, fs))) (isC isR perm : List Nat) {wr : va_W} {ws' : S → va_W} (hC : isC.map (fun i => ws[i]?) = WC.map some) (hcn : va_nd isC = true) (hRr : isR.map (fun i => ws[i]?) = wr.map some) (hnd : va_nd isR = true) (hdis : ∀ i ∈ isR, i ∉ isC) (hperm : ∀ u, perm.map (fun i => (wr ++ W1 u)[i]?) = (ws' u).map some) (hpn : va_nd perm = true) (hpx : perm.map (fun i => (wr ++ WC)[i]?) = WX.map some)
    (hn : As.length = n) (hst : st = As.reverse ++ .ref b :: rest) (hW : (rest.map fun v => v.category).sum ≤ 8) (hdg : decode cc pc = .ok (.invokevirtual index, 3)) (hf : cells + mc ≤ Rm.cells ∧ slots + ms ≤ Rm.slots) (hl9 : cells + mc ≤ mcX ∧ slots + ms ≤ msX) (pc' : Nat) (hp : pc + 3 = pc') (hxp : ∀ E, xpc E → xp E)
    (k : ∀ u, post u → gx X (cells + mc) (slots + ms) (ws' u) pc' lv rest) : gx X cells slots ws pc lv st := by
  obtain ⟨p, l, e, R, s, m, args, below, meth, c, A, D, nL, Q⟩ := X
  subst hp
  subst hst
  have hRm : R = Rm := C.2.2.2.2.2.2.2.2
  subst hRm
  obtain ⟨hr, hlocks, hQe⟩ := hQ
  have hQe : Q = vx_MQ below Qc (xX D tys A WX xp) args s mcX msX A := hQe
  subst hQe
  intro H locs ls hP hD hS hl
  have hPc := hP.sub (ws' := WC) isC (fm_of_map hC)
  have hDc := hD.sub (ws' := WC) isC hcn hC
  have hFc := va_free (wc := WC) hD hS C.2.2.2.2.2.2.1 isC hC
  refine vx_callv (vx_runV (As := As) (rest := rest) ⟨C.1, C.2.1, C.2.2.1, C.2.2.2.1, C.2.2.2.2.1⟩ (hM H.size) (cwV n C.2.2.2.2.1 hg hw hrc hrs hd hR) ⟨fun a U g mk q => by obtain ⟨e0, q0, qP, qK, qD, qX⟩ := q; exact ⟨e0, q0, qP, va_K.moved (u := U) (U := U.calling g mk a) (Vm.Alike.refl U.vm) qK, qD, hXP.1 _ a U g mk qX⟩, va_recv C.2.2.2.2.2.1 hPc hci hq0, fun U hU hW => ⟨rfl, by rw [hU], by rw [hU]; exact hPc, va_K.moved hW.alike C.2.2.2.2.2.1, hDc.weaken (fun _ _ _ _ => trivial), hXP.2 H locs U hS hFc hU hW⟩⟩ rfl hn hl.1 rfl (lv_room hW) hdg hf) hS (fun q _ h => hFc q h) hFc (fun q _ h => hFc q h) (fun E ce q9 u t H1 locs1 ht hvm _ hB hz1 hk1 hS hcell hcv hcl => ?_) (fun u t H1 locs1 ht hvm hw9 hB hz1 hk1 hS => ?_)
  · obtain ⟨hE, hP1, hK1, hD1⟩ := hB
    rw [ht] at hP1
    obtain ⟨hP', hD'⟩ := va_join hP hD isC isR hC hRr hnd hdis hk1 hFc hP1 hD1
    exact vx_out (fun x hx => (hno x hx).elim) hlocks hcell hcv hcl (fun t' ht' hvm' => ⟨(), trivial, ⟨hxp E hE, by rw [ht']; exact hP'.sub perm (fm_of_map hpx), va_K.moved hvm' C.2.2.2.2.2.1, hD'.sub perm hpn hpx⟩, hS.F ht'⟩) hS.2.2 hl9.1 hl9.2
  · obtain ⟨hP1, hK1, hD1⟩ := hB
    rw [ht] at hP1
    obtain ⟨hP', hD'⟩ := va_join hP hD isC isR hC hRr hnd hdis hk1 hFc hP1 hD1
    exact k u hw9 H1 locs1 ls (hP'.sub perm (fm_of_map (hperm u))) (hD'.sub perm hpn (hperm u)) hS hl
/-- a call that returns nothing or throws; what is thrown goes on to the caller -/
theorem g_callSvX {S : Type} (C : gx_C X cc own Ts tys N Rm) {y : MethodName} {wsY wsY' : List Cond} {rm : Room} {As rest : List Value} {WC : va_W} {W1 : S → va_W} {XP : Nat → State → Prop} {post : S → Prop} {xpc : String → Prop} {mc ms index maxL : Nat} {bytes : ByteArray} {retY : Option FieldType} {ret : Option FieldType} {Qc : Array Value → State → Outcome → State → Prop} {WX : va_W} {xp : String → Prop} {mcX msX : Nat} (hQ : gx_QX X ret Qc (xX (gx_D X) tys (gx_A X) WX xp) mcX msX) (hno : gx_noX X)
    (hM : ∀ sz, vx_Met (gx_l X) y wsY rm (va_Pc As (pW (gx_D X) tys WC (XP sz) sz)) (va_Qv post (qW (gx_D X) tys (va_A WC sz) W1) (va_A WC sz)) (xX (gx_D X) tys (va_A WC sz) WC xpc) mc ms (va_A WC sz)) (hXP : gx_XPs X WC XP)
    (n : Nat) (hg : GoodIn Ts (va_wsS own index y wsY)) (hw : wsY = Cond.code y bytes maxL retY :: wsY') (hrc : rm.cells = mc) (hrs : rm.slots = ms) (hd : y.cls ≠ "java/lang/invoke/MethodHandle" ∧ y.cls ≠ "java/lang/invoke/VarHandle" ∧ (parseMethodDescriptor y.desc).map (fun d => d.parameters.length) = some n) (hR : rm.frames + 1 ≤ Rm.frames ∧ 8 + (maxL + 11) + rm.locals ≤ Rm.locals)
    (isC isR perm : List Nat) {wr : va_W} {ws' : S → va_W} (hC : isC.map (fun i => ws[i]?) = WC.map some) (hcn : va_nd isC = true) (hRr : isR.map (fun i => ws[i]?) = wr.map some) (hnd : va_nd isR = true) (hdis : ∀ i ∈ isR, i ∉ isC) (hperm : ∀ u, perm.map (fun i => (wr ++ W1 u)[i]?) = (ws' u).map some) (hpn : va_nd perm = true) (hpx : perm.map (fun i => (wr ++ WC)[i]?) = WX.map some)
    (hn : As.length = n) (hst : st = As.reverse ++ rest) (hW : (rest.map fun v => v.category).sum ≤ 8) (hdg : decode cc pc = .ok (.invokestatic index, 3)) (hf : cells + mc ≤ Rm.cells ∧ slots + ms ≤ Rm.slots) (hl9 : cells + mc ≤ mcX ∧ slots + ms ≤ msX) (pc' : Nat) (hp : pc + 3 = pc') (hxp : ∀ E, xpc E → xp E)
    (k : ∀ u, post u → gx X (cells + mc) (slots + ms) (ws' u) pc' lv rest) : gx X cells slots ws pc lv st := by
  obtain ⟨p, l, e, R, s, m, args, below, meth, c, A, D, nL, Q⟩ := X
  subst hp
  subst hst
  have hRm : R = Rm := C.2.2.2.2.2.2.2.2
  subst hRm
  obtain ⟨hr, hlocks, hQe⟩ := hQ
  have hQe : Q = vx_MQ below Qc (xX D tys A WX xp) args s mcX msX A := hQe
  subst hQe
  intro H locs ls hP hD hS hl
  have hPc := hP.sub (ws' := WC) isC (fm_of_map hC)
  have hDc := hD.sub (ws' := WC) isC hcn hC
  have hFc := va_free (wc := WC) hD hS C.2.2.2.2.2.2.1 isC hC
  refine vx_callv (vx_runS (As := As) (rest := rest) ⟨C.1, C.2.1, C.2.2.1, C.2.2.2.1, C.2.2.2.2.1⟩ (hM H.size) (va_cwS n C.2.2.2.2.1 hg hw hrc hrs hd hR) ⟨fun a U g mk q => by obtain ⟨e0, q0, qP, qK, qD, qX⟩ := q; exact ⟨e0, q0, qP, va_K.moved (u := U) (U := U.calling g mk a) (Vm.Alike.refl U.vm) qK, qD, hXP.1 _ a U g mk qX⟩, fun U hU hW => ⟨rfl, by rw [hU], by rw [hU]; exact hPc, va_K.moved hW.alike C.2.2.2.2.2.1, hDc.weaken (fun _ _ _ _ => trivial), hXP.2 H locs U hS hFc hU hW⟩⟩ rfl hn hl.1 rfl (lv_room hW) hdg hf) hS (fun q _ h => hFc q h) hFc (fun q _ h => hFc q h) (fun E ce q9 u t H1 locs1 ht hvm _ hB hz1 hk1 hS hcell hcv hcl => ?_) (fun u t H1 locs1 ht hvm hw9 hB hz1 hk1 hS => ?_)
  · obtain ⟨hE, hP1, hK1, hD1⟩ := hB
    rw [ht] at hP1
    obtain ⟨hP', hD'⟩ := va_join hP hD isC isR hC hRr hnd hdis hk1 hFc hP1 hD1
    exact vx_out (fun x hx => (hno x hx).elim) hlocks hcell hcv hcl (fun t' ht' hvm' => ⟨(), trivial, ⟨hxp E hE, by rw [ht']; exact hP'.sub perm (fm_of_map hpx), va_K.moved hvm' C.2.2.2.2.2.1, hD'.sub perm hpn hpx⟩, hS.F ht'⟩) hS.2.2 hl9.1 hl9.2
  · obtain ⟨hP1, hK1, hD1⟩ := hB
    rw [ht] at hP1
    obtain ⟨hP', hD'⟩ := va_join hP hD isC isR hC hRr hnd hdis hk1 hFc hP1 hD1
    exact k u hw9 H1 locs1 ls (hP'.sub perm (fm_of_map (hperm u))) (hD'.sub perm hpn (hperm u)) hS hl
end GXT
end
section
theorem zz_last : True := trivial
end
