/-! class and reference answer alike -/
def RELL (nd bd wn sc vc n : Nat) (cav fN oN ln eA eB col gr pA pB mk : Nat → Nat) (wy mL fa lo ar : Nat → Int64) (wa td rq mr pa tw ow : Nat → Int32) (sa sb : Int64) : Prop :=
  RT nd bd cav fN oN ln wy mL fa ∧ RW nd wn eA eB col lo wa ∧ RL0 sa sb ∧ RG ar td ∧ RR wn rq mr ∧ RS wn sc pa gr pA pB ∧ RV vc tw ow mk ∧ n ≤ 16
theorem cN_16 {c : Int32} (h : wiN c.toInt64 1 16) : cN c ≤ 16 := by
  obtain ⟨v, h1, h2, e⟩ := lN_of (a := 1) (b := 16) rfl rfl (by omega) (by omega) h
  have e2 : c.toInt64.toInt = (lN v).toInt := by rw [e]
  rw [Int32.toInt_toInt64, lN_toInt (by omega)] at e2
  unfold cN
  show c.toInt.toNat ≤ 16
  omega
theorem inR_cN {x : Int32} {n : Nat} (hn : n < 2147483648) (h : inR x n) : cN x < n := by
  obtain ⟨j, hj, rfl⟩ := h
  rw [cN_nI (by omega)]; exact hj
theorem inC_lt {cav : Nat → Nat} {nd : Nat} {a k : Int32} (hn : nd ≤ 16) (hc : ∀ j, j < nd → cav j ≤ 16) (h : inC cav nd a k) : cN a < nd ∧ cN k < 16 := by
  obtain ⟨j, hj, rfl, h2⟩ := h
  have h3 := hc j hj
  have h4 := inR_cN (by omega) h2
  rw [cN_nI (by omega)]
  exact ⟨hj, by omega⟩
theorem updL_self {f : Nat → Int64} {k : Nat} {x : Int64} (h : f k = x) : vp_updL f k x = f := by
  funext j
  unfold vp_updL
  split
  · rename_i e; rw [e, h]
  · rfl
theorem RW_lo {nd wn : Nat} {eA eB col : Nat → Nat} {lo : Nat → Int64} {wa : Nat → Int32} (h : RW nd wn eA eB col lo wa) {x : Nat} {y : Int64} (hx : x < wn) : RW nd wn eA eB col (vp_updL lo x y) wa :=
  ⟨h.1, h.2.1, h.2.2.1, h.2.2.2.1, fun w hw => by rw [updL_ne _ _ (by omega)]; exact h.2.2.2.2 w hw⟩
theorem ag_connector {nd : Nat} {bd : Nat} {wn : Nat} {sc : Nat} {vc : Nat} {n : Nat} {cav : Nat → Nat} {fN : Nat → Nat} {oN : Nat → Nat} {ln : Nat → Nat} {eA : Nat → Nat} {eB : Nat → Nat} {col : Nat → Nat} {gr : Nat → Nat} {pA : Nat → Nat} {pB : Nat → Nat} {mk : Nat → Nat} {wy : Nat → Int64} {mL : Nat → Int64} {fa : Nat → Int64} {lo : Nat → Int64} {ar : Nat → Int64} {wa : Nat → Int32} {td : Nat → Int32} {rq : Nat → Int32} {mr : Nat → Int32} {pa : Nat → Int32} {tw : Nat → Int32} {ow : Nat → Int32} {sa : Int64} {sb : Int64}  {c : Int32} (hR : RELL nd bd wn sc vc n cav fN oN ln eA eB col gr pA pB mk wy mL fa lo ar wa td rq mr pa tw ow sa sb) {k9 : Int32} {cav1 : Nat → Nat} {wy1 : Nat → Int64} {nd1 : Nat} {of1 : Nat → Int64} (p1 : (k9 = nI 0 ∧ ∃ ra : Int32, (wiN c.toInt64 1 16 ∧ (ra, cav1, wy1, nd1) = FaddNode cav wy nd (cN c)) ∧ of1 0 = ra.toInt64) ∨ (k9 = nI 1 ∧ (¬ wiN c.toInt64 1 16) ∧ cav1 = cav ∧ wy1 = wy ∧ nd1 = nd)) {r9 : Int32} {th1 : Nat} {mn1 : Nat} {mc1 : Nat → Nat} (p2 : (th1 = 1 ∧ ¬ wiN c.toInt64 1 16 ∧ mc1 = cav ∧ mn1 = nd) ∨ (th1 = 0 ∧ wiN c.toInt64 1 16 ∧ (r9, mc1, mn1) = GaddNode cav nd (cN c))) : k9 = nI th1 ∧ (k9 = 0 → of1 0 = r9.toInt64) ∧ cav1 = mc1 ∧ nd1 = mn1 ∧ RELL nd1 bd wn sc vc n cav1 fN oN ln eA eB col gr pA pB mk wy1 mL fa lo ar wa td rq mr pa tw ow sa sb := by
  have hR0 := hR
  obtain ⟨hT, hW, hL, hG, hQ, hS, hV, hn⟩ := hR
  rcases p1 with ⟨rfl, ra, ⟨w, e1⟩, ho⟩ | ⟨rfl, w, rfl, rfl, rfl⟩ <;> rcases p2 with ⟨rfl, w2, rfl, rfl⟩ | ⟨rfl, w2, e2⟩
  · exact absurd w w2
  · obtain ⟨a1, a2, a3, a5, a4⟩ := RT_node hT (cN_16 w) e1 e2
    exact ⟨rfl, fun _ => by rw [ho, a1], a2.symm, a3.symm, a4, RW_nd hW a5, hL, hG, hQ, hS, hV, hn⟩
  · exact ⟨rfl, fun q => absurd q (by decide), rfl, rfl, hR0⟩
  · exact absurd w2 w
theorem ag_node {nd : Nat} {bd : Nat} {wn : Nat} {sc : Nat} {vc : Nat} {n : Nat} {cav : Nat → Nat} {fN : Nat → Nat} {oN : Nat → Nat} {ln : Nat → Nat} {eA : Nat → Nat} {eB : Nat → Nat} {col : Nat → Nat} {gr : Nat → Nat} {pA : Nat → Nat} {pB : Nat → Nat} {mk : Nat → Nat} {wy : Nat → Int64} {mL : Nat → Int64} {fa : Nat → Int64} {lo : Nat → Int64} {ar : Nat → Int64} {wa : Nat → Int32} {td : Nat → Int32} {rq : Nat → Int32} {mr : Nat → Int32} {pa : Nat → Int32} {tw : Nat → Int32} {ow : Nat → Int32} {sa : Int64} {sb : Int64}   (hR : RELL nd bd wn sc vc n cav fN oN ln eA eB col gr pA pB mk wy mL fa lo ar wa td rq mr pa tw ow sa sb) {k9 : Int32} {cav1 : Nat → Nat} {wy1 : Nat → Int64} {nd1 : Nat} (p1 : (k9, cav1, wy1, nd1) = FaddNode cav wy nd 0) {r9 : Int32} {mn1 : Nat} {mc1 : Nat → Nat} (p2 : (r9, mc1, mn1) = GaddNode cav nd 0) : k9 = r9 ∧ cav1 = mc1 ∧ nd1 = mn1 ∧ RELL nd1 bd wn sc vc n cav1 fN oN ln eA eB col gr pA pB mk wy1 mL fa lo ar wa td rq mr pa tw ow sa sb := by
  have hR0 := hR
  obtain ⟨hT, hW, hL, hG, hQ, hS, hV, hn⟩ := hR
  obtain ⟨a1, a2, a3, a5, a4⟩ := RT_node hT (by omega) p1 p2
  exact ⟨a1, a2.symm, a3.symm, a4, RW_nd hW a5, hL, hG, hQ, hS, hV, hn⟩
theorem ag_bundle {nd : Nat} {bd : Nat} {wn : Nat} {sc : Nat} {vc : Nat} {n : Nat} {cav : Nat → Nat} {fN : Nat → Nat} {oN : Nat → Nat} {ln : Nat → Nat} {eA : Nat → Nat} {eB : Nat → Nat} {col : Nat → Nat} {gr : Nat → Nat} {pA : Nat → Nat} {pB : Nat → Nat} {mk : Nat → Nat} {wy : Nat → Int64} {mL : Nat → Int64} {fa : Nat → Int64} {lo : Nat → Int64} {ar : Nat → Int64} {wa : Nat → Int32} {td : Nat → Int32} {rq : Nat → Int32} {mr : Nat → Int32} {pa : Nat → Int32} {tw : Nat → Int32} {ow : Nat → Int32} {sa : Int64} {sb : Int64}  {a : Int32} {b : Int32} {len : Int64} (hR : RELL nd bd wn sc vc n cav fN oN ln eA eB col gr pA pB mk wy mL fa lo ar wa td rq mr pa tw ow sa sb) {k9 : Int32} {fN1 : Nat → Nat} {oN1 : Nat → Nat} {ln1 : Nat → Nat} {wy1 : Nat → Int64} {bd1 : Nat} {of1 : Nat → Int64} (p1 : (k9 = nI 0 ∧ ∃ ra : Int32, (inR a nd ∧ inR b nd ∧ wiN len 1 100000 ∧ (ra, fN1, oN1, ln1, wy1, bd1) = Fbundle fN oN ln wy nd bd (cN a) (cN b) (lnN len)) ∧ of1 0 = ra.toInt64) ∨ (k9 = nI 1 ∧ (¬ (inR a nd ∧ inR b nd)) ∧ fN1 = fN ∧ oN1 = oN ∧ ln1 = ln ∧ wy1 = wy ∧ bd1 = bd) ∨ (k9 = nI 2 ∧ (inR a nd ∧ inR b nd ∧ ¬ wiN len 1 100000) ∧ fN1 = fN ∧ oN1 = oN ∧ ln1 = ln ∧ wy1 = wy ∧ bd1 = bd)) {r9 : Int32} {th1 : Nat} {mb1 : Nat} {mA1 : Nat → Nat} {mB1 : Nat → Nat} {mL1 : Nat → Int64} {fa1 : Nat → Int64} (p2 : (th1 = 1 ∧ ¬ (inR a nd ∧ inR b nd) ∧ mA1 = fN ∧ mB1 = oN ∧ mL1 = mL ∧ fa1 = fa ∧ mb1 = bd) ∨ (th1 = 2 ∧ inR a nd ∧ inR b nd ∧ ¬ wiN len 1 100000 ∧ mA1 = fN ∧ mB1 = oN ∧ mL1 = mL ∧ fa1 = fa ∧ mb1 = bd) ∨ (th1 = 0 ∧ inR a nd ∧ inR b nd ∧ wiN len 1 100000 ∧ (r9, mA1, mB1, mL1, fa1, mb1) = Gbundle fN oN mL fa nd bd (cN a) (cN b) len)) : k9 = nI th1 ∧ (k9 = 0 → of1 0 = r9.toInt64) ∧ fN1 = mA1 ∧ oN1 = mB1 ∧ bd1 = mb1 ∧ RELL nd bd1 wn sc vc n cav fN1 oN1 ln1 eA eB col gr pA pB mk wy1 mL1 fa1 lo ar wa td rq mr pa tw ow sa sb := by
  have hR0 := hR
  obtain ⟨hT, hW, hL, hG, hQ, hS, hV, hn⟩ := hR
  have h16 := hT.1
  rcases p1 with ⟨rfl, ra, ⟨ia, ib, w, e1⟩, ho⟩ | ⟨rfl, w, rfl, rfl, rfl, rfl, rfl⟩ | ⟨rfl, ⟨ia, ib, w⟩, rfl, rfl, rfl, rfl, rfl⟩ <;> rcases p2 with ⟨rfl, w2, rfl, rfl, rfl, rfl, rfl⟩ | ⟨rfl, ja, jb, w2, rfl, rfl, rfl, rfl, rfl⟩ | ⟨rfl, ja, jb, w2, e2⟩
  · exact absurd ⟨ia, ib⟩ w2
  · exact absurd w w2
  · obtain ⟨a1, a2, a3, a4, a5⟩ := RT_bundle hT (inR_cN (by omega) ia) (inR_cN (by omega) ib) w e1 e2
    exact ⟨rfl, fun _ => by rw [ho, a1], a2.symm, a3.symm, a4.symm, a5, hW, hL, hG, hQ, hS, hV, hn⟩
  · exact ⟨rfl, fun q => absurd q (by decide), rfl, rfl, rfl, hR0⟩
  · exact absurd ⟨ja, jb⟩ w
  · exact absurd ⟨ja, jb⟩ w
  · exact absurd ⟨ia, ib⟩ w2
  · exact ⟨rfl, fun q => absurd q (by decide), rfl, rfl, rfl, hR0⟩
  · exact absurd w2 w
theorem ag_wire {nd : Nat} {bd : Nat} {wn : Nat} {sc : Nat} {vc : Nat} {n : Nat} {cav : Nat → Nat} {fN : Nat → Nat} {oN : Nat → Nat} {ln : Nat → Nat} {eA : Nat → Nat} {eB : Nat → Nat} {col : Nat → Nat} {gr : Nat → Nat} {pA : Nat → Nat} {pB : Nat → Nat} {mk : Nat → Nat} {wy : Nat → Int64} {mL : Nat → Int64} {fa : Nat → Int64} {lo : Nat → Int64} {ar : Nat → Int64} {wa : Nat → Int32} {td : Nat → Int32} {rq : Nat → Int32} {mr : Nat → Int32} {pa : Nat → Int32} {tw : Nat → Int32} {ow : Nat → Int32} {sa : Int64} {sb : Int64} {dr : Nat → Int64} {a : Int32} {ca : Int32} {b : Int32} {cb : Int32} (hR : RELL nd bd wn sc vc n cav fN oN ln eA eB col gr pA pB mk wy mL fa lo ar wa td rq mr pa tw ow sa sb) {k9 : Int32} {eA1 : Nat → Nat} {eB1 : Nat → Nat} {col1 : Nat → Nat} {lo1 : Nat → Int64} {dr1 : Nat → Int64} {wn1 : Nat} {of1 : Nat → Int64} (p1 : (k9 = nI 0 ∧ ∃ ra : Int32, ((inC cav nd a ca ∧ inC cav nd b cb) ∧ (ra, eA1, eB1, col1, lo1, dr1, wn1) = Fwire eA eB col lo dr wn (cN a * 16 + cN ca) (cN b * 16 + cN cb)) ∧ of1 0 = ra.toInt64) ∨ (k9 = nI 1 ∧ (¬ (inC cav nd a ca ∧ inC cav nd b cb)) ∧ eA1 = eA ∧ eB1 = eB ∧ col1 = col ∧ lo1 = lo ∧ dr1 = dr ∧ wn1 = wn)) {r9 : Int32} {th1 : Nat} {mw1 : Nat} {qA1 : Nat → Nat} {qB1 : Nat → Nat} {mdr1 : Nat → Int64} {wa1 : Nat → Int32} (p2 : (th1 = 1 ∧ ¬ (inC cav nd a ca ∧ inC cav nd b cb) ∧ qA1 = eA ∧ qB1 = eB ∧ mdr1 = dr ∧ wa1 = wa ∧ mw1 = wn) ∨ (th1 = 0 ∧ (inC cav nd a ca ∧ inC cav nd b cb) ∧ (r9, qA1, qB1, mdr1, wa1, mw1) = Gwire eA eB dr wa wn (16 * cN a + cN ca) (16 * cN b + cN cb))) : k9 = nI th1 ∧ (k9 = 0 → of1 0 = r9.toInt64) ∧ eA1 = qA1 ∧ eB1 = qB1 ∧ dr1 = mdr1 ∧ wn1 = mw1 ∧ lo = lo1 ∧ RELL nd bd wn1 sc vc n cav fN oN ln eA1 eB1 col1 gr pA pB mk wy mL fa lo ar wa1 td rq mr pa tw ow sa sb := by
  have hR0 := hR
  obtain ⟨hT, hW, hL, hG, hQ, hS, hV, hn⟩ := hR
  have h16 := hT.1
  rcases p1 with ⟨rfl, ra, ⟨⟨ia, ib⟩, e1⟩, ho⟩ | ⟨rfl, w, rfl, rfl, rfl, rfl, rfl, rfl⟩ <;> rcases p2 with ⟨rfl, w2, rfl, rfl, rfl, rfl, rfl⟩ | ⟨rfl, w2, e2⟩
  · exact absurd ⟨ia, ib⟩ w2
  · have b1 := inC_lt h16 hT.2.1 ia
    have b2 := inC_lt h16 hT.2.1 ib
    obtain ⟨a1, a2, a3, a4, a5, a6, a7, a8⟩ := RW_wire hW h16 (by omega) (by omega) (by omega) (by omega) e1 e2
    exact ⟨rfl, fun _ => by rw [ho, a1], a2.symm, a3.symm, a5.symm, a6.symm, a4.symm, hT, a8, hL, hG, RR_wn hQ a7, RS_wn hS a7, hV, hn⟩
  · exact ⟨rfl, fun q => absurd q (by decide), rfl, rfl, rfl, rfl, rfl, hR0⟩
  · exact absurd w2 w
theorem ag_load {nd : Nat} {bd : Nat} {wn : Nat} {sc : Nat} {vc : Nat} {n : Nat} {cav : Nat → Nat} {fN : Nat → Nat} {oN : Nat → Nat} {ln : Nat → Nat} {eA : Nat → Nat} {eB : Nat → Nat} {col : Nat → Nat} {gr : Nat → Nat} {pA : Nat → Nat} {pB : Nat → Nat} {mk : Nat → Nat} {wy : Nat → Int64} {mL : Nat → Int64} {fa : Nat → Int64} {lo : Nat → Int64} {ar : Nat → Int64} {wa : Nat → Int32} {td : Nat → Int32} {rq : Nat → Int32} {mr : Nat → Int32} {pa : Nat → Int32} {tw : Nat → Int32} {ow : Nat → Int32} {sa : Int64} {sb : Int64} {dr : Nat → Int64} {x : Int32} {y : Int64} {z : Int64} (hR : RELL nd bd wn sc vc n cav fN oN ln eA eB col gr pA pB mk wy mL fa lo ar wa td rq mr pa tw ow sa sb) {k9 : Int32} {lo1 : Nat → Int64} {dr1 : Nat → Int64} {of1 : Nat → Int64} (p1 : (k9 = nI 0 ∧ ∃ ra : Int32, (inR x wn ∧ wiN y 0 1000000 ∧ wiN z 0 1000000 ∧ ra = bI (!(decide (lo (cN x) = y) && decide (dr (cN x) = z))) ∧ lo1 = vp_updL lo (cN x) y ∧ dr1 = vp_updL dr (cN x) z) ∧ of1 0 = (if ra = 0 then 0 else 1)) ∨ (k9 = nI 1 ∧ (¬ inR x wn) ∧ lo1 = lo ∧ dr1 = dr) ∨ (k9 = nI 2 ∧ (inR x wn ∧ ¬ (wiN y 0 1000000 ∧ wiN z 0 1000000)) ∧ lo1 = lo ∧ dr1 = dr)) {r9 : Int32} {th1 : Nat} {mlo1 : Nat → Int64} {mdr1 : Nat → Int64} (p2 : (th1 = 1 ∧ ¬ inR x wn ∧ mlo1 = lo ∧ mdr1 = dr) ∨ (th1 = 2 ∧ inR x wn ∧ ¬ (wiN y 0 1000000 ∧ wiN z 0 1000000) ∧ mlo1 = lo ∧ mdr1 = dr) ∨ (th1 = 0 ∧ inR x wn ∧ (wiN y 0 1000000 ∧ wiN z 0 1000000) ∧ r9 = bI (!(decide (lo (cN x) = y) && decide (dr (cN x) = z))) ∧ ((mlo1 = lo ∧ mdr1 = dr ∧ lo (cN x) = y ∧ dr (cN x) = z) ∨ (mlo1 = vp_updL lo (cN x) y ∧ mdr1 = vp_updL dr (cN x) z)))) : k9 = nI th1 ∧ (k9 = 0 → of1 0 = (if r9 = 0 then 0 else 1)) ∧ lo1 = mlo1 ∧ dr1 = mdr1 ∧ RELL nd bd wn sc vc n cav fN oN ln eA eB col gr pA pB mk wy mL fa lo1 ar wa td rq mr pa tw ow sa sb := by
  have hR0 := hR
  obtain ⟨hT, hW, hL, hG, hQ, hS, hV, hn⟩ := hR
  have h24 := hW.1
  rcases p1 with ⟨rfl, ra, ⟨ix, wy1, wz1, rfl, rfl, rfl⟩, ho⟩ | ⟨rfl, w, rfl, rfl⟩ | ⟨rfl, ⟨ix, w⟩, rfl, rfl⟩ <;> rcases p2 with ⟨rfl, w2, rfl, rfl⟩ | ⟨rfl, jx, w2, rfl, rfl⟩ | ⟨rfl, jx, w2, rfl, e2⟩
  · exact absurd ix w2
  · exact absurd ⟨wy1, wz1⟩ w2
  · have hx := inR_cN (by omega) ix
    rcases e2 with ⟨rfl, rfl, e3, e4⟩ | ⟨rfl, rfl⟩
    · rw [updL_self e3, updL_self e4]
      exact ⟨rfl, fun _ => ho, rfl, rfl, hR0⟩
    · exact ⟨rfl, fun _ => ho, rfl, rfl, hT, RW_lo hW hx, hL, hG, hQ, hS, hV, hn⟩
  · exact ⟨rfl, fun q => absurd q (by decide), rfl, rfl, hR0⟩
  · exact absurd jx w
  · exact absurd jx w
  · exact absurd ix w2
  · exact ⟨rfl, fun q => absurd q (by decide), rfl, rfl, hR0⟩
  · exact absurd w2 w
theorem ag_gauge {nd : Nat} {bd : Nat} {wn : Nat} {sc : Nat} {vc : Nat} {n : Nat} {cav : Nat → Nat} {fN : Nat → Nat} {oN : Nat → Nat} {ln : Nat → Nat} {eA : Nat → Nat} {eB : Nat → Nat} {col : Nat → Nat} {gr : Nat → Nat} {pA : Nat → Nat} {pB : Nat → Nat} {mk : Nat → Nat} {wy : Nat → Int64} {mL : Nat → Int64} {fa : Nat → Int64} {lo : Nat → Int64} {ar : Nat → Int64} {wa : Nat → Int32} {td : Nat → Int32} {rq : Nat → Int32} {mr : Nat → Int32} {pa : Nat → Int32} {tw : Nat → Int32} {ow : Nat → Int32} {sa : Int64} {sb : Int64} {dr : Nat → Int64} {ma : Nat → Int64} {mo : Nat → Int64} {x : Int32} (hR : RELL nd bd wn sc vc n cav fN oN ln eA eB col gr pA pB mk wy mL fa lo ar wa td rq mr pa tw ow sa sb) {k9 : Int32} {of1 : Nat → Int64} (p1 : (k9 = nI 0 ∧ ∃ ra : Int32, (inR x wn ∧ ra = Fgauge ar ma mo lo dr (cutL wy eA eB sa sb (cN x)) (cN x)) ∧ of1 0 = ra.toInt64) ∨ (k9 = nI 1 ∧ (¬ inR x wn))) {r9 : Int32} {th1 : Nat} (p2 : (th1 = 1 ∧ ¬ inR x wn) ∨ (th1 = 0 ∧ inR x wn ∧ r9 = if lenO fa eA eB sa sb (cN x) < 0 then -1 else oI (mgg (mdo td ma mo (lo (cN x)) (dr (cN x)) (lenO fa eA eB sa sb (cN x))) ar 10))) : k9 = nI th1 ∧ (k9 = 0 → of1 0 = r9.toInt64) ∧ RELL nd bd wn sc vc n cav fN oN ln eA eB col gr pA pB mk wy mL fa lo ar wa td rq mr pa tw ow sa sb := by
  have hR0 := hR
  obtain ⟨hT, hW, hL, hG, hQ, hS, hV, hn⟩ := hR
  have hcut : ∀ i, i < wn → cutL wy eA eB sa sb i = lenO fa eA eB sa sb i ∧ (lenO fa eA eB sa sb i = -1 ∨ ∃ v, v < 2 ^ 40 ∧ lenO fa eA eB sa sb i = lN v) := fun i hi => ⟨cut_lenO hW hT.1 hT.2.2.2.1 hT.2.2.2.2 (RT_bd hT) hi, lenO_pos hW hT.1 hT.2.2.2.2 (RT_bd hT) hL hi⟩
  have h24 := hW.1
  rcases p1 with ⟨rfl, ra, ⟨ix, rfl⟩, ho⟩ | ⟨rfl, w⟩ <;> rcases p2 with ⟨rfl, w2⟩ | ⟨rfl, jx, rfl⟩
  · exact absurd ix w2
  · have hx := inR_cN (by omega) ix
    refine ⟨rfl, fun _ => ?_, hR0⟩
    rw [ho, (hcut _ hx).1, gauge_eq hG (hcut _ hx).2]
  · exact ⟨rfl, fun q => absurd q (by decide), hR0⟩
  · exact absurd jx w
theorem ag_table {nd : Nat} {bd : Nat} {wn : Nat} {sc : Nat} {vc : Nat} {n : Nat} {cav : Nat → Nat} {fN : Nat → Nat} {oN : Nat → Nat} {ln : Nat → Nat} {eA : Nat → Nat} {eB : Nat → Nat} {col : Nat → Nat} {gr : Nat → Nat} {pA : Nat → Nat} {pB : Nat → Nat} {mk : Nat → Nat} {wy : Nat → Int64} {mL : Nat → Int64} {fa : Nat → Int64} {lo : Nat → Int64} {ar : Nat → Int64} {wa : Nat → Int32} {td : Nat → Int32} {rq : Nat → Int32} {mr : Nat → Int32} {pa : Nat → Int32} {tw : Nat → Int32} {ow : Nat → Int32} {sa : Int64} {sb : Int64} {ma : Nat → Int64} {mo : Nat → Int64} {x : Int32} {y : Int64} {z : Int64} {q : Int64} (hR : RELL nd bd wn sc vc n cav fN oN ln eA eB col gr pA pB mk wy mL fa lo ar wa td rq mr pa tw ow sa sb) {k9 : Int32} {ar1 : Nat → Int64} {ma1 : Nat → Int64} {mo1 : Nat → Int64} {of1 : Nat → Int64} (p1 : (k9 = nI 0 ∧ ∃ ra : Int32, (inR x 10 ∧ (wiN y 1 1000000 ∧ wiN z 1 1000000 ∧ wiN q 1 1000000) ∧ ra = bI (!(decide (ar (cN x) = y) && decide (ma (cN x) = z) && decide (mo (cN x) = q))) ∧ ar1 = vp_updL ar (cN x) y ∧ ma1 = vp_updL ma (cN x) z ∧ mo1 = vp_updL mo (cN x) q) ∧ of1 0 = (if ra = 0 then 0 else 1)) ∨ (k9 = nI 1 ∧ (¬ inR x 10) ∧ ar1 = ar ∧ ma1 = ma ∧ mo1 = mo) ∨ (k9 = nI 2 ∧ (inR x 10 ∧ ¬ (wiN y 1 1000000 ∧ wiN z 1 1000000 ∧ wiN q 1 1000000)) ∧ ar1 = ar ∧ ma1 = ma ∧ mo1 = mo)) {r9 : Int32} {th1 : Nat} {td1 : Nat → Int32} {mar1 : Nat → Int64} {mam1 : Nat → Int64} {moh1 : Nat → Int64} (p2 : (th1 = 1 ∧ ¬ inR x 10 ∧ td1 = td ∧ mar1 = ar ∧ mam1 = ma ∧ moh1 = mo) ∨ (th1 = 2 ∧ inR x 10 ∧ ¬ (wiN y 1 1000000 ∧ wiN z 1 1000000 ∧ wiN q 1 1000000) ∧ td1 = td ∧ mar1 = ar ∧ mam1 = ma ∧ moh1 = mo) ∨ (th1 = 0 ∧ inR x 10 ∧ (wiN y 1 1000000 ∧ wiN z 1 1000000 ∧ wiN q 1 1000000) ∧ r9 = bI (!(!(decide (td (cN x) = 0)) && decide (ar (cN x) = y) && decide (ma (cN x) = z) && decide (mo (cN x) = q))) ∧ td1 = upd td (cN x) 1 ∧ mar1 = vp_updL ar (cN x) y ∧ mam1 = vp_updL ma (cN x) z ∧ moh1 = vp_updL mo (cN x) q)) : k9 = nI th1 ∧ (k9 = 0 → of1 0 = (if r9 = 0 then 0 else 1)) ∧ ar1 = mar1 ∧ ma1 = mam1 ∧ mo1 = moh1 ∧ RELL nd bd wn sc vc n cav fN oN ln eA eB col gr pA pB mk wy mL fa lo ar1 wa td1 rq mr pa tw ow sa sb := by
  have hR0 := hR
  obtain ⟨hT, hW, hL, hG, hQ, hS, hV, hn⟩ := hR
  rcases p1 with ⟨rfl, ra, ⟨ix, w1, rfl, rfl, rfl, rfl⟩, ho⟩ | ⟨rfl, w, rfl, rfl, rfl⟩ | ⟨rfl, ⟨ix, w⟩, rfl, rfl, rfl⟩ <;> rcases p2 with ⟨rfl, w2, rfl, rfl, rfl, rfl⟩ | ⟨rfl, jx, w2, rfl, rfl, rfl, rfl⟩ | ⟨rfl, jx, w2, rfl, rfl, rfl, rfl, rfl⟩
  · exact absurd ix w2
  · exact absurd w1 w2
  · have hx := inR_cN (by omega) ix
    refine ⟨rfl, fun _ => ?_, rfl, rfl, rfl, hT, hW, hL, RG_new hG w1.1, hQ, hS, hV, hn⟩
    rw [ho, RG_told hG hx w1.1]
  · exact ⟨rfl, fun q => absurd q (by decide), rfl, rfl, rfl, hR0⟩
  · exact absurd jx w
  · exact absurd jx w
  · exact absurd ix w2
  · exact ⟨rfl, fun q => absurd q (by decide), rfl, rfl, rfl, hR0⟩
  · exact absurd w2 w
theorem ag_length {nd : Nat} {bd : Nat} {wn : Nat} {sc : Nat} {vc : Nat} {n : Nat} {cav : Nat → Nat} {fN : Nat → Nat} {oN : Nat → Nat} {ln : Nat → Nat} {eA : Nat → Nat} {eB : Nat → Nat} {col : Nat → Nat} {gr : Nat → Nat} {pA : Nat → Nat} {pB : Nat → Nat} {mk : Nat → Nat} {wy : Nat → Int64} {mL : Nat → Int64} {fa : Nat → Int64} {lo : Nat → Int64} {ar : Nat → Int64} {wa : Nat → Int32} {td : Nat → Int32} {rq : Nat → Int32} {mr : Nat → Int32} {pa : Nat → Int32} {tw : Nat → Int32} {ow : Nat → Int32} {sa : Int64} {sb : Int64}  {x : Int32} (hR : RELL nd bd wn sc vc n cav fN oN ln eA eB col gr pA pB mk wy mL fa lo ar wa td rq mr pa tw ow sa sb) {k9 : Int32} {of1 : Nat → Int64} (p1 : (k9 = nI 0 ∧ ∃ ra : Int64, (inR x wn ∧ ra = cutL wy eA eB sa sb (cN x)) ∧ of1 0 = ra) ∨ (k9 = nI 1 ∧ (¬ inR x wn))) {r9 : Int64} {th1 : Nat} (p2 : (th1 = 1 ∧ ¬ inR x wn) ∨ (th1 = 0 ∧ inR x wn ∧ r9 = lenO fa eA eB sa sb (cN x))) : k9 = nI th1 ∧ (k9 = 0 → of1 0 = r9) ∧ RELL nd bd wn sc vc n cav fN oN ln eA eB col gr pA pB mk wy mL fa lo ar wa td rq mr pa tw ow sa sb := by
  have hR0 := hR
  obtain ⟨hT, hW, hL, hG, hQ, hS, hV, hn⟩ := hR
  have hcut : ∀ i, i < wn → cutL wy eA eB sa sb i = lenO fa eA eB sa sb i ∧ (lenO fa eA eB sa sb i = -1 ∨ ∃ v, v < 2 ^ 40 ∧ lenO fa eA eB sa sb i = lN v) := fun i hi => ⟨cut_lenO hW hT.1 hT.2.2.2.1 hT.2.2.2.2 (RT_bd hT) hi, lenO_pos hW hT.1 hT.2.2.2.2 (RT_bd hT) hL hi⟩
  have h24 := hW.1
  rcases p1 with ⟨rfl, ra, ⟨ix, rfl⟩, ho⟩ | ⟨rfl, w⟩ <;> rcases p2 with ⟨rfl, w2⟩ | ⟨rfl, jx, rfl⟩
  · exact absurd ix w2
  · have hx := inR_cN (by omega) ix
    refine ⟨rfl, fun _ => ?_, hR0⟩
    rw [ho, (hcut _ hx).1]
  · exact ⟨rfl, fun q => absurd q (by decide), hR0⟩
  · exact absurd jx w
theorem ag_slack {nd : Nat} {bd : Nat} {wn : Nat} {sc : Nat} {vc : Nat} {n : Nat} {cav : Nat → Nat} {fN : Nat → Nat} {oN : Nat → Nat} {ln : Nat → Nat} {eA : Nat → Nat} {eB : Nat → Nat} {col : Nat → Nat} {gr : Nat → Nat} {pA : Nat → Nat} {pB : Nat → Nat} {mk : Nat → Nat} {wy : Nat → Int64} {mL : Nat → Int64} {fa : Nat → Int64} {lo : Nat → Int64} {ar : Nat → Int64} {wa : Nat → Int32} {td : Nat → Int32} {rq : Nat → Int32} {mr : Nat → Int32} {pa : Nat → Int32} {tw : Nat → Int32} {ow : Nat → Int32} {sa : Int64} {sb : Int64}  {x : Int64} {y : Int64} (hR : RELL nd bd wn sc vc n cav fN oN ln eA eB col gr pA pB mk wy mL fa lo ar wa td rq mr pa tw ow sa sb) {k9 : Int32} {sa1 : Int64} {sb1 : Int64} {of1 : Nat → Int64} (p1 : (k9 = nI 0 ∧ ∃ ra : Int32, (wiN y 1 1000 ∧ wiN x 0 y ∧ ra = bI (!(decide (x = sa) && decide (y = sb))) ∧ sa1 = x ∧ sb1 = y) ∧ of1 0 = (if ra = 0 then 0 else 1)) ∨ (k9 = nI 1 ∧ (¬ (wiN y 1 1000 ∧ wiN x 0 y)) ∧ sa1 = sa ∧ sb1 = sb)) {r9 : Int32} {th1 : Nat} {sa1m : Int64} {sb1m : Int64} (p2 : (th1 = 1 ∧ ¬ (wiN y 1 1000 ∧ wiN x 0 y) ∧ sa1m = sa ∧ sb1m = sb) ∨ (th1 = 0 ∧ (wiN y 1 1000 ∧ wiN x 0 y) ∧ r9 = bI (!(decide (sa = x) && decide (sb = y))) ∧ sa1m = x ∧ sb1m = y)) : k9 = nI th1 ∧ (k9 = 0 → of1 0 = (if r9 = 0 then 0 else 1)) ∧ sa1 = sa1m ∧ sb1 = sb1m ∧ RELL nd bd wn sc vc n cav fN oN ln eA eB col gr pA pB mk wy mL fa lo ar wa td rq mr pa tw ow sa1 sb1 := by
  have hR0 := hR
  obtain ⟨hT, hW, hL, hG, hQ, hS, hV, hn⟩ := hR
  rcases p1 with ⟨rfl, ra, ⟨w1, w3, rfl, rfl, rfl⟩, ho⟩ | ⟨rfl, w, rfl, rfl⟩ <;> rcases p2 with ⟨rfl, w2, rfl, rfl⟩ | ⟨rfl, w2, rfl, rfl, rfl⟩
  · exact absurd ⟨w1, w3⟩ w2
  · refine ⟨rfl, fun _ => ?_, rfl, rfl, hT, hW, RL0_new w1 w3, hG, hQ, hS, hV, hn⟩
    rw [ho]
    simp only [eq_comm]
  · exact ⟨rfl, fun q => absurd q (by decide), rfl, rfl, hR0⟩
  · exact absurd w2 w
theorem ag_reel {nd : Nat} {bd : Nat} {wn : Nat} {sc : Nat} {vc : Nat} {n : Nat} {cav : Nat → Nat} {fN : Nat → Nat} {oN : Nat → Nat} {ln : Nat → Nat} {eA : Nat → Nat} {eB : Nat → Nat} {col : Nat → Nat} {gr : Nat → Nat} {pA : Nat → Nat} {pB : Nat → Nat} {mk : Nat → Nat} {wy : Nat → Int64} {mL : Nat → Int64} {fa : Nat → Int64} {lo : Nat → Int64} {ar : Nat → Int64} {wa : Nat → Int32} {td : Nat → Int32} {rq : Nat → Int32} {mr : Nat → Int32} {pa : Nat → Int32} {tw : Nat → Int32} {ow : Nat → Int32} {sa : Int64} {sb : Int64} {wp : Nat → Nat} {pk : Nat → Nat} {tr : Nat → Nat} {cu : Nat → Int64} {fi : Nat → Int64} {us : Nat → Int64} {np : Nat} {fw : Nat} {rl : Int64} {len : Int64} (hR : RELL nd bd wn sc vc n cav fN oN ln eA eB col gr pA pB mk wy mL fa lo ar wa td rq mr pa tw ow sa sb) {k9 : Int32} {rq1 : Nat → Int32} {wp1 : Nat → Nat} {cu1 : Nat → Int64} {fi1 : Nat → Int64} {tr1 : Nat → Nat} {np1 : Nat} {fw1 : Nat} {rl1 : Int64} {of1 : Nat → Int64} (p1 : (k9 = nI 0 ∧ ∃ ra : Int32, (wiN len 1 10000000 ∧ (ra, rq1, wp1, cu1, fi1, tr1, np1, fw1) = Freel (cutL wy eA eB sa sb) wn len rq wp cu fi tr fw) ∧ of1 0 = ra.toInt64) ∨ (k9 = nI 1 ∧ (¬ wiN len 1 10000000) ∧ rq1 = rq ∧ wp1 = wp ∧ cu1 = cu ∧ fi1 = fi ∧ tr1 = tr ∧ np1 = np ∧ fw1 = fw ∧ rl1 = rl)) {r9 : Int32} {th1 : Nat} {mr1 : Nat → Int32} (p2 : (th1 = 1 ∧ ¬ wiN len 1 10000000 ∧ mr1 = mr) ∨ (th1 = 0 ∧ wiN len 1 10000000 ∧ Greel (lenO fa eA eB sa sb) wn len mr pk us r9 mr1)) : k9 = nI th1 ∧ (k9 = 0 → of1 0 = r9.toInt64) ∧ RELL nd bd wn sc vc n cav fN oN ln eA eB col gr pA pB mk wy mL fa lo ar wa td rq1 mr1 pa tw ow sa sb := by
  have hR0 := hR
  obtain ⟨hT, hW, hL, hG, hQ, hS, hV, hn⟩ := hR
  have hcut : ∀ i, i < wn → cutL wy eA eB sa sb i = lenO fa eA eB sa sb i ∧ (lenO fa eA eB sa sb i = -1 ∨ ∃ v, v < 2 ^ 40 ∧ lenO fa eA eB sa sb i = lN v) := fun i hi => ⟨cut_lenO hW hT.1 hT.2.2.2.1 hT.2.2.2.2 (RT_bd hT) hi, lenO_pos hW hT.1 hT.2.2.2.2 (RT_bd hT) hL hi⟩
  rcases p1 with ⟨rfl, ra, ⟨w1, e1⟩, ho⟩ | ⟨rfl, w, rfl, rfl, rfl, rfl, rfl, rfl, rfl, rfl⟩ <;> rcases p2 with ⟨rfl, w2, rfl⟩ | ⟨rfl, w2, e2⟩
  · exact absurd w1 w2
  · obtain ⟨a1, a2⟩ := RR_reel hW.1 hcut hQ e1 e2
    exact ⟨rfl, fun _ => by rw [ho, a1], hT, hW, hL, hG, a2, hS, hV, hn⟩
  · exact ⟨rfl, fun q => absurd q (by decide), hR0⟩
  · exact absurd w2 w
theorem ag_reelOf {nd : Nat} {bd : Nat} {wn : Nat} {sc : Nat} {vc : Nat} {n : Nat} {cav : Nat → Nat} {fN : Nat → Nat} {oN : Nat → Nat} {ln : Nat → Nat} {eA : Nat → Nat} {eB : Nat → Nat} {col : Nat → Nat} {gr : Nat → Nat} {pA : Nat → Nat} {pB : Nat → Nat} {mk : Nat → Nat} {wy : Nat → Int64} {mL : Nat → Int64} {fa : Nat → Int64} {lo : Nat → Int64} {ar : Nat → Int64} {wa : Nat → Int32} {td : Nat → Int32} {rq : Nat → Int32} {mr : Nat → Int32} {pa : Nat → Int32} {tw : Nat → Int32} {ow : Nat → Int32} {sa : Int64} {sb : Int64}  {x : Int32} (hR : RELL nd bd wn sc vc n cav fN oN ln eA eB col gr pA pB mk wy mL fa lo ar wa td rq mr pa tw ow sa sb) {k9 : Int32} {of1 : Nat → Int64} (p1 : (k9 = nI 0 ∧ ∃ ra : Int32, (inR x wn ∧ ra = rq (cN x)) ∧ of1 0 = ra.toInt64) ∨ (k9 = nI 1 ∧ (¬ inR x wn))) {r9 : Int32} {th1 : Nat} (p2 : (th1 = 1 ∧ ¬ inR x wn) ∨ (th1 = 0 ∧ inR x wn ∧ r9 = mr (cN x))) : k9 = nI th1 ∧ (k9 = 0 → of1 0 = r9.toInt64) ∧ RELL nd bd wn sc vc n cav fN oN ln eA eB col gr pA pB mk wy mL fa lo ar wa td rq mr pa tw ow sa sb := by
  have hR0 := hR
  obtain ⟨hT, hW, hL, hG, hQ, hS, hV, hn⟩ := hR
  have h24 := hW.1
  rcases p1 with ⟨rfl, ra, ⟨ix, rfl⟩, ho⟩ | ⟨rfl, w⟩ <;> rcases p2 with ⟨rfl, w2⟩ | ⟨rfl, jx, rfl⟩
  · exact absurd ix w2
  · have hx := inR_cN (by omega) ix
    exact ⟨rfl, fun _ => by rw [ho, hQ.1 _ (by omega)], hR0⟩
  · exact ⟨rfl, fun q => absurd q (by decide), hR0⟩
  · exact absurd jx w
theorem ag_splice {nd : Nat} {bd : Nat} {wn : Nat} {sc : Nat} {vc : Nat} {n : Nat} {cav : Nat → Nat} {fN : Nat → Nat} {oN : Nat → Nat} {ln : Nat → Nat} {eA : Nat → Nat} {eB : Nat → Nat} {col : Nat → Nat} {gr : Nat → Nat} {pA : Nat → Nat} {pB : Nat → Nat} {mk : Nat → Nat} {wy : Nat → Int64} {mL : Nat → Int64} {fa : Nat → Int64} {lo : Nat → Int64} {ar : Nat → Int64} {wa : Nat → Int32} {td : Nat → Int32} {rq : Nat → Int32} {mr : Nat → Int32} {pa : Nat → Int32} {tw : Nat → Int32} {ow : Nat → Int32} {sa : Int64} {sb : Int64}  {x : Int32} {y : Int32} (hR : RELL nd bd wn sc vc n cav fN oN ln eA eB col gr pA pB mk wy mL fa lo ar wa td rq mr pa tw ow sa sb) {k9 : Int32} {pa1 : Nat → Int32} {gr1 : Nat → Nat} {sc1 : Nat} {of1 : Nat → Int64} (p1 : (k9 = nI 0 ∧ ∃ ra : Int32, (inR x wn ∧ inR y wn ∧ (ra, pa1, gr1, sc1) = Fsplice pa gr sc (cN x) (cN y)) ∧ of1 0 = ra.toInt64) ∨ (k9 = nI 1 ∧ (¬ (inR x wn ∧ inR y wn)) ∧ pa1 = pa ∧ gr1 = gr ∧ sc1 = sc)) {r9 : Int32} {th1 : Nat} {mz1 : Nat} {pA1 : Nat → Nat} {pB1 : Nat → Nat} (p2 : (th1 = 1 ∧ ¬ (inR x wn ∧ inR y wn) ∧ pA1 = pA ∧ pB1 = pB ∧ mz1 = sc) ∨ (th1 = 0 ∧ (inR x wn ∧ inR y wn) ∧ (r9, pA1, pB1, mz1) = Gsplice pA pB sc (cN x) (cN y))) : k9 = nI th1 ∧ (k9 = 0 → of1 0 = r9.toInt64) ∧ sc1 = mz1 ∧ RELL nd bd wn sc1 vc n cav fN oN ln eA eB col gr1 pA1 pB1 mk wy mL fa lo ar wa td rq mr pa1 tw ow sa sb := by
  have hR0 := hR
  obtain ⟨hT, hW, hL, hG, hQ, hS, hV, hn⟩ := hR
  have h24 := hW.1
  rcases p1 with ⟨rfl, ra, ⟨ix, iy, e1⟩, ho⟩ | ⟨rfl, w, rfl, rfl, rfl⟩ <;> rcases p2 with ⟨rfl, w2, rfl, rfl, rfl⟩ | ⟨rfl, w2, e2⟩
  · exact absurd ⟨ix, iy⟩ w2
  · obtain ⟨a1, a2, a3⟩ := RS_splice hS h24 (inR_cN (by omega) ix) (inR_cN (by omega) iy) e1 e2
    exact ⟨rfl, fun _ => by rw [ho, a1], a2.symm, hT, hW, hL, hG, hQ, a3, hV, hn⟩
  · exact ⟨rfl, fun q => absurd q (by decide), rfl, hR0⟩
  · exact absurd w2 w
theorem ag_joined {nd : Nat} {bd : Nat} {wn : Nat} {sc : Nat} {vc : Nat} {n : Nat} {cav : Nat → Nat} {fN : Nat → Nat} {oN : Nat → Nat} {ln : Nat → Nat} {eA : Nat → Nat} {eB : Nat → Nat} {col : Nat → Nat} {gr : Nat → Nat} {pA : Nat → Nat} {pB : Nat → Nat} {mk : Nat → Nat} {wy : Nat → Int64} {mL : Nat → Int64} {fa : Nat → Int64} {lo : Nat → Int64} {ar : Nat → Int64} {wa : Nat → Int32} {td : Nat → Int32} {rq : Nat → Int32} {mr : Nat → Int32} {pa : Nat → Int32} {tw : Nat → Int32} {ow : Nat → Int32} {sa : Int64} {sb : Int64} {gp : Nat → Nat} {a : Int32} {ca : Int32} {b : Int32} {cb : Int32} (hR : RELL nd bd wn sc vc n cav fN oN ln eA eB col gr pA pB mk wy mL fa lo ar wa td rq mr pa tw ow sa sb) {k9 : Int32} {of1 : Nat → Int64} (p1 : (k9 = nI 0 ∧ ∃ ra : Int32, ((inC cav nd a ca ∧ inC cav nd b cb) ∧ ra = bI (Fjoined eA eB gr wn (cN a * 16 + cN ca) (cN b * 16 + cN cb))) ∧ of1 0 = (if ra = 0 then 0 else 1)) ∨ (k9 = nI 1 ∧ (¬ (inC cav nd a ca ∧ inC cav nd b cb)))) {r9 : Int32} {th1 : Nat} {gp1 : Nat → Nat} (p2 : (th1 = 1 ∧ ¬ (inC cav nd a ca ∧ inC cav nd b cb) ∧ gp1 = gp) ∨ (th1 = 0 ∧ (inC cav nd a ca ∧ inC cav nd b cb) ∧ r9 = bI (Gjoined wa gp pA pB wn sc (cN a) (cN ca) (cN b) (cN cb)))) : k9 = nI th1 ∧ (k9 = 0 → of1 0 = (if r9 = 0 then 0 else 1)) ∧ RELL nd bd wn sc vc n cav fN oN ln eA eB col gr pA pB mk wy mL fa lo ar wa td rq mr pa tw ow sa sb := by
  have hR0 := hR
  obtain ⟨hT, hW, hL, hG, hQ, hS, hV, hn⟩ := hR
  have h16 := hT.1
  rcases p1 with ⟨rfl, ra, ⟨⟨ia, ib⟩, rfl⟩, ho⟩ | ⟨rfl, w⟩ <;> rcases p2 with ⟨rfl, w2, _⟩ | ⟨rfl, w2, rfl⟩
  · exact absurd ⟨ia, ib⟩ w2
  · have b1 := inC_lt h16 hT.2.1 ia
    have b2 := inC_lt h16 hT.2.1 ib
    exact ⟨rfl, fun _ => by rw [ho, joined_eq hW hS h16 b1.1 b1.2 b2.1 b2.2], hR0⟩
  · exact ⟨rfl, fun q => absurd q (by decide), hR0⟩
  · exact absurd w2 w
theorem ag_colour {nd : Nat} {bd : Nat} {wn : Nat} {sc : Nat} {vc : Nat} {n : Nat} {cav : Nat → Nat} {fN : Nat → Nat} {oN : Nat → Nat} {ln : Nat → Nat} {eA : Nat → Nat} {eB : Nat → Nat} {col : Nat → Nat} {gr : Nat → Nat} {pA : Nat → Nat} {pB : Nat → Nat} {mk : Nat → Nat} {wy : Nat → Int64} {mL : Nat → Int64} {fa : Nat → Int64} {lo : Nat → Int64} {ar : Nat → Int64} {wa : Nat → Int32} {td : Nat → Int32} {rq : Nat → Int32} {mr : Nat → Int32} {pa : Nat → Int32} {tw : Nat → Int32} {ow : Nat → Int32} {sa : Int64} {sb : Int64} {gp : Nat → Nat} {x : Int32} (hR : RELL nd bd wn sc vc n cav fN oN ln eA eB col gr pA pB mk wy mL fa lo ar wa td rq mr pa tw ow sa sb) {k9 : Int32} {of1 : Nat → Int64} (p1 : (k9 = nI 0 ∧ ∃ ra : Int32, (inR x wn ∧ ra = nI (col (cN x))) ∧ of1 0 = ra.toInt64) ∨ (k9 = nI 1 ∧ (¬ inR x wn))) {r9 : Int32} {th1 : Nat} {gp1 : Nat → Nat} (p2 : (th1 = 1 ∧ ¬ inR x wn ∧ gp1 = gp) ∨ (th1 = 0 ∧ inR x wn ∧ r9 = nI (mcol eA eB gp (cN x + 1) (cN x)) ∧ gp1 = mcol eA eB gp (cN x + 1))) : k9 = nI th1 ∧ (k9 = 0 → of1 0 = r9.toInt64) ∧ RELL nd bd wn sc vc n cav fN oN ln eA eB col gr pA pB mk wy mL fa lo ar wa td rq mr pa tw ow sa sb := by
  have hR0 := hR
  obtain ⟨hT, hW, hL, hG, hQ, hS, hV, hn⟩ := hR
  have h24 := hW.1
  rcases p1 with ⟨rfl, ra, ⟨ix, rfl⟩, ho⟩ | ⟨rfl, w⟩ <;> rcases p2 with ⟨rfl, w2, _⟩ | ⟨rfl, jx, rfl, _⟩
  · exact absurd ix w2
  · have hx := inR_cN (by omega) ix
    exact ⟨rfl, fun _ => by rw [ho, hW.2.2.2.1 _ gp hx], hR0⟩
  · exact ⟨rfl, fun q => absurd q (by decide), hR0⟩
  · exact absurd jx w
theorem ag_variant {nd : Nat} {bd : Nat} {wn : Nat} {sc : Nat} {vc : Nat} {n : Nat} {cav : Nat → Nat} {fN : Nat → Nat} {oN : Nat → Nat} {ln : Nat → Nat} {eA : Nat → Nat} {eB : Nat → Nat} {col : Nat → Nat} {gr : Nat → Nat} {pA : Nat → Nat} {pB : Nat → Nat} {mk : Nat → Nat} {wy : Nat → Int64} {mL : Nat → Int64} {fa : Nat → Int64} {lo : Nat → Int64} {ar : Nat → Int64} {wa : Nat → Int32} {td : Nat → Int32} {rq : Nat → Int32} {mr : Nat → Int32} {pa : Nat → Int32} {tw : Nat → Int32} {ow : Nat → Int32} {sa : Int64} {sb : Int64}   (hR : RELL nd bd wn sc vc n cav fN oN ln eA eB col gr pA pB mk wy mL fa lo ar wa td rq mr pa tw ow sa sb) {k9 : Int32} {vc1 : Nat} (p1 : (k9, vc1) = if vc < 6 then (nI vc, vc + 1) else (-1, vc)) {r9 : Int32} {mv1 : Nat} (p2 : (r9, mv1) = if vc < 6 then (nI vc, vc + 1) else (-1, vc)) : k9 = r9 ∧ vc1 = mv1 ∧ RELL nd bd wn sc vc1 n cav fN oN ln eA eB col gr pA pB mk wy mL fa lo ar wa td rq mr pa tw ow sa sb := by
  have hR0 := hR
  obtain ⟨hT, hW, hL, hG, hQ, hS, hV, hn⟩ := hR
  have h6 := hV.1
  by_cases c : vc < 6
  · rw [if_pos c] at p1 p2
    cases p1; cases p2
    exact ⟨rfl, rfl, hT, hW, hL, hG, hQ, hS, ⟨by omega, hV.2⟩, hn⟩
  · rw [if_neg c] at p1 p2
    cases p1; cases p2
    exact ⟨rfl, rfl, hR0⟩
theorem ag_has {nd : Nat} {bd : Nat} {wn : Nat} {sc : Nat} {vc : Nat} {n : Nat} {cav : Nat → Nat} {fN : Nat → Nat} {oN : Nat → Nat} {ln : Nat → Nat} {eA : Nat → Nat} {eB : Nat → Nat} {col : Nat → Nat} {gr : Nat → Nat} {pA : Nat → Nat} {pB : Nat → Nat} {mk : Nat → Nat} {wy : Nat → Int64} {mL : Nat → Int64} {fa : Nat → Int64} {lo : Nat → Int64} {ar : Nat → Int64} {wa : Nat → Int32} {td : Nat → Int32} {rq : Nat → Int32} {mr : Nat → Int32} {pa : Nat → Int32} {tw : Nat → Int32} {ow : Nat → Int32} {sa : Int64} {sb : Int64}  {x : Int32} {y : Int32} {on : Bool} (hR : RELL nd bd wn sc vc n cav fN oN ln eA eB col gr pA pB mk wy mL fa lo ar wa td rq mr pa tw ow sa sb) {k9 : Int32} {tw1 : Nat → Int32} {ow1 : Nat → Int32} {of1 : Nat → Int64} (p1 : (k9 = nI 0 ∧ ∃ ra : Int32, (inR x vc ∧ inR y wn ∧ ra = bI (!(decide (von tw ow (cN y) (cN x + 1) = on))) ∧ tw1 = upd tw (cN x) (tw (cN x) ||| (nI 1 <<< (nI (cN y) &&& 31))) ∧ ow1 = owput ow (cN x) (cN y) on) ∧ of1 0 = (if ra = 0 then 0 else 1)) ∨ (k9 = nI 1 ∧ (¬ (inR x vc ∧ inR y wn)) ∧ tw1 = tw ∧ ow1 = ow)) {r9 : Int32} {th1 : Nat} {mk1 : Nat → Nat} (p2 : (th1 = 1 ∧ ¬ (inR x vc ∧ inR y wn) ∧ mk1 = mk) ∨ (th1 = 0 ∧ (inR x vc ∧ inR y wn) ∧ r9 = bI (!(decide (mon mk (cN y) (cN x + 1) = on))) ∧ mk1 = updN mk (24 * cN x + cN y) (if on = true then 1 else 2))) : k9 = nI th1 ∧ (k9 = 0 → of1 0 = (if r9 = 0 then 0 else 1)) ∧ RELL nd bd wn sc vc n cav fN oN ln eA eB col gr pA pB mk1 wy mL fa lo ar wa td rq mr pa tw1 ow1 sa sb := by
  have hR0 := hR
  obtain ⟨hT, hW, hL, hG, hQ, hS, hV, hn⟩ := hR
  have h24 := hW.1
  have h6 := hV.1
  rcases p1 with ⟨rfl, ra, ⟨ix, iy, rfl, rfl, rfl⟩, ho⟩ | ⟨rfl, w, rfl, rfl⟩ <;> rcases p2 with ⟨rfl, w2, rfl⟩ | ⟨rfl, w2, rfl, rfl⟩
  · exact absurd ⟨ix, iy⟩ w2
  · have hx := inR_cN (by omega) ix
    have hy := inR_cN (by omega) iy
    refine ⟨rfl, fun _ => ?_, hT, hW, hL, hG, hQ, hS, RV_has hV (by omega) (by omega) on, hn⟩
    rw [ho, von_mon hV (by omega) (by omega)]
  · exact ⟨rfl, fun q => absurd q (by decide), hR0⟩
  · exact absurd w2 w
theorem ag_told {nd : Nat} {bd : Nat} {wn : Nat} {sc : Nat} {vc : Nat} {n : Nat} {cav : Nat → Nat} {fN : Nat → Nat} {oN : Nat → Nat} {ln : Nat → Nat} {eA : Nat → Nat} {eB : Nat → Nat} {col : Nat → Nat} {gr : Nat → Nat} {pA : Nat → Nat} {pB : Nat → Nat} {mk : Nat → Nat} {wy : Nat → Int64} {mL : Nat → Int64} {fa : Nat → Int64} {lo : Nat → Int64} {ar : Nat → Int64} {wa : Nat → Int32} {td : Nat → Int32} {rq : Nat → Int32} {mr : Nat → Int32} {pa : Nat → Int32} {tw : Nat → Int32} {ow : Nat → Int32} {sa : Int64} {sb : Int64}  {k : Int32} {x : Int32} (hR : RELL nd bd wn sc vc n cav fN oN ln eA eB col gr pA pB mk wy mL fa lo ar wa td rq mr pa tw ow sa sb) {k9 : Int32} {of1 : Nat → Int64} (p1 : (k9 = nI 0 ∧ ∃ ra : Int32, (inR x 2 ∧ ra = Ftold eA eB tw ow vc wn k (cN x)) ∧ of1 0 = ra.toInt64) ∨ (k9 = nI 1 ∧ (¬ inR x 2))) {r9 : Int32} {th1 : Nat} (p2 : (th1 = 1 ∧ ¬ inR x 2) ∨ (th1 = 0 ∧ inR x 2 ∧ r9 = Gtold eA eB mk vc wn k (cN x))) : k9 = nI th1 ∧ (k9 = 0 → of1 0 = r9.toInt64) ∧ RELL nd bd wn sc vc n cav fN oN ln eA eB col gr pA pB mk wy mL fa lo ar wa td rq mr pa tw ow sa sb := by
  have hR0 := hR
  obtain ⟨hT, hW, hL, hG, hQ, hS, hV, hn⟩ := hR
  rcases p1 with ⟨rfl, ra, ⟨ix, rfl⟩, ho⟩ | ⟨rfl, w⟩ <;> rcases p2 with ⟨rfl, w2⟩ | ⟨rfl, jx, rfl⟩
  · exact absurd ix w2
  · exact ⟨rfl, fun _ => by rw [ho, told_eq hV hW.1], hR0⟩
  · exact ⟨rfl, fun q => absurd q (by decide), hR0⟩
  · exact absurd jx w
theorem ag_command {nd : Nat} {bd : Nat} {wn : Nat} {sc : Nat} {vc : Nat} {n : Nat} {cav : Nat → Nat} {fN : Nat → Nat} {oN : Nat → Nat} {ln : Nat → Nat} {eA : Nat → Nat} {eB : Nat → Nat} {col : Nat → Nat} {gr : Nat → Nat} {pA : Nat → Nat} {pB : Nat → Nat} {mk : Nat → Nat} {wy : Nat → Int64} {mL : Nat → Int64} {fa : Nat → Int64} {lo : Nat → Int64} {ar : Nat → Int64} {wa : Nat → Int32} {td : Nat → Int32} {rq : Nat → Int32} {mr : Nat → Int32} {pa : Nat → Int32} {tw : Nat → Int32} {ow : Nat → Int32} {sa : Int64} {sb : Int64} {f : Nat → Int32} {ml : Int32} {k : Int32} {i : Int32} (hR : RELL nd bd wn sc vc n cav fN oN ln eA eB col gr pA pB mk wy mL fa lo ar wa td rq mr pa tw ow sa sb) {k9 : Int32} {ml1 : Int32} {n1 : Nat} {f1 : Nat → Int32} {of1 : Nat → Int64} (p1 : (k9 = nI 0 ∧ ∃ ra : Int32, (n1 ≤ 16 ∧ inR k bd ∧ 0 ≤ i ∧ ra = gtx (btxt cav fN oN ln (cN k)) (cN i)) ∧ of1 0 = ra.toInt64) ∨ (k9 = nI 1 ∧ (¬ (inR k bd ∧ 0 ≤ i)) ∧ ml1 = ml ∧ n1 = n ∧ f1 = f)) {r9 : Int32} {th1 : Nat} (p2 : (th1 = 1 ∧ ¬ (inR k bd ∧ 0 ≤ i)) ∨ (th1 = 0 ∧ inR k bd ∧ 0 ≤ i ∧ r9 = gtx (btxt cav fN oN ln (cN k)) (cN i))) : k9 = nI th1 ∧ (k9 = 0 → of1 0 = r9.toInt64) ∧ RELL nd bd wn sc vc n1 cav fN oN ln eA eB col gr pA pB mk wy mL fa lo ar wa td rq mr pa tw ow sa sb := by
  have hR0 := hR
  obtain ⟨hT, hW, hL, hG, hQ, hS, hV, hn⟩ := hR
  rcases p1 with ⟨rfl, ra, ⟨h16, ix, iy, rfl⟩, ho⟩ | ⟨rfl, w, rfl, rfl, rfl⟩ <;> rcases p2 with ⟨rfl, w2⟩ | ⟨rfl, jx, jy, rfl⟩
  · exact absurd ⟨ix, iy⟩ w2
  · exact ⟨rfl, fun _ => ho, hT, hW, hL, hG, hQ, hS, hV, h16⟩
  · exact ⟨rfl, fun q => absurd q (by decide), hR0⟩
  · exact absurd ⟨jx, jy⟩ w
