/-! the law's calculus: its script, its own end, a call of each of the two -/
/-- what is the law's own at its loop: its room, its argument, its script, its end -/
def LawX : XX → Nat → Nat → (Nat → Int32) → Prop
  | (_, _, _, R, s, _, args, below, meth, _, kc, ks, Q, _, A), b, L, xs => R = room_1 ∧ args = #[Value.ref b] ∧ va_X b L xs s s.heap ∧ b < s.heap.size ∧ A = (fun q => s.heap.size ≤ q) ∧ Q = lw_Z below #[Value.ref b] s ∧ kc ≤ 600000 ∧ ks ≤ 7302249 ∧ meth.sig.returnType = ret
theorem law_sld {X : XX} {Z : ZZ} {cc : ByteArray} {n : Nat} {own : String} {l0 : Launch} {d : Nat} {ws : va_W} {pc : Nat} {lv : List (Nat × Value)} {st : List Value} {b L : Nat} {xs : Nat → Int32} (hX : Okk X Z cc n own l0 d) (hW : LawX X b L xs) {i : Int32} (j : Nat) (hj : j < L) (hN : L < 2 ^ 31) (hi : i = nI j) (hd : decode cc pc = .ok (.iaload, 1)) (kk : G X Z ws (pc + 1) lv (.int (xs j) :: st)) : G X Z ws pc lv (.int i :: .ref b :: st) := by
  obtain ⟨p, l, e, R, s, m, args, below, meth, c, kc, ks, Q, nL, A⟩ := X
  obtain ⟨hx, hb, hml, hown, hts, hK, hA, hlk, hE, hAB, hzB, hR, rfl, rfl⟩ := hX
  obtain ⟨-, -, hXs, hbl, hA0, -⟩ := hW
  intro ls H locs h hP hD hS
  subst hi
  have kk1 := kk ls H locs h hP hD hS
  have e1 := nI_clamp (n := j) (by omega)
  exact va_sld hx hb hXs hbl (by rw [hA0]; exact Nat.not_le.mpr hbl) hS (vp_in_nI hj hN) hd (by rw [e1]; exact kk1)
theorem law_slen {X : XX} {Z : ZZ} {cc : ByteArray} {n : Nat} {own : String} {l0 : Launch} {d : Nat} {ws : va_W} {pc : Nat} {lv : List (Nat × Value)} {st : List Value} {b L : Nat} {xs : Nat → Int32} (hX : Okk X Z cc n own l0 d) (hW : LawX X b L xs) (hd : decode cc pc = .ok (.arraylength, 1)) (kk : G X Z ws (pc + 1) lv (.int (nI L) :: st)) : G X Z ws pc lv (.ref b :: st) := by
  obtain ⟨p, l, e, R, s, m, args, below, meth, c, kc, ks, Q, nL, A⟩ := X
  obtain ⟨hx, hb, hml, hown, hts, hK, hA, hlk, hE, hAB, hzB, hR, rfl, rfl⟩ := hX
  obtain ⟨-, -, hXs, hbl, hA0, -⟩ := hW
  intro ls H locs h hP hD hS
  exact va_slen hx hb hXs hbl (by rw [hA0]; exact Nat.not_le.mpr hbl) hS hd (kk ls H locs h hP hD hS)
theorem law_ret1 {X : XX} {Z : ZZ} {n : Nat} {own : String} {l0 : Launch} {d : Nat} {ws : va_W} {pc : Nat} {lv : List (Nat × Value)} {b L : Nat} {xs : Nat → Int32} (hX : Okk X Z code n own l0 d) (hW : LawX X b L xs) (hd : decode code pc = .ok (.ireturn, 1)) : G X Z ws pc lv [.int 1] := by
  obtain ⟨p, l, e, R, s, m, args, below, meth, c, kc, ks, Q, nL, A⟩ := X
  obtain ⟨hx, hb, hml, hown, hts, hK, hA, hlk, hE, hAB, hzB, hR, rfl, rfl⟩ := hX
  obtain ⟨rfl, rfl, -, -, rfl, rfl, hkc, hks, hr⟩ := hW
  intro ls H locs h hP hD hS
  exact va_forget (fun q hq => hS.2.2 q hq) (W.widen hkc hks (lw_ret hx hb hr hlk hd))
abbrev lvL (a : Nat → Nat → Nat) (b h k : Nat) : List (Nat × Value) := [(0, .ref b), (1, .ref (a 0 0)), (2, .ref h), (3, .int (nI (3 * k)))]
theorem law_arg {X : XX} {Z : ZZ} {l0 : Launch} {ws : va_W} {pc : Nat} {st : List Value} {a : Nat → Nat → Nat} {b h k L : Nat} {xs : Nat → Int32} (hX : Okk X Z code 4 "NeverBothDoorsLaw" l0 11) (hW : LawX X b L xs) (hL : L ≤ 1536) (j : Nat) (hj : 3 * k + j < L) {c : Int} (hc : Int32.ofInt c = nI j) (d0 : decode code pc = .ok (.aload_n 0, 1)) (d1 : decode code (pc + 1) = .ok (.iload_n 3, 1)) (d2 : decode code (pc + 1 + 1) = .ok (.iconst c, 1)) (d3 : decode code (pc + 1 + 1 + 1) = .ok (.iadd, 1)) (d4 : decode code (pc + 1 + 1 + 1 + 1) = .ok (.iaload, 1)) (kk : G X Z ws (pc + 5) (lvL a b h k) (.int (xs (3 * k + j)) :: st)) : G X Z ws pc (lvL a b h k) st := by
  refine g_aload_n hX d0 0 rfl ?_
  refine g_iload_n hX d1 3 rfl ?_
  refine g_iconst hX d2 hc ?_
  refine g_iadd hX d3 (nI_add _ _) ?_
  exact law_sld hX hW (3 * k + j) hj (by omega) rfl d4 kk
theorem law_callX {X : XX} {Z : ZZ} {l : Launch} {pc : Nat} {lv : List (Nat × Value)} {st st0 : List Value} (hX : Okk X Z code 4 "NeverBothDoorsLaw" l 11) {a : Nat → Nat → Nat} {h : Nat} {q : Nat → Nat} {Sn Sm Sk T V U S : St} {y : MethodName} {b : ByteArray} {n1 d1 idx k : Nat} {As : List Value} {r : XR} (con : Con l Z y b n1 (some .int) d1 (.ref (a 0 0) :: As) (wX Z a Sn Sm Sk T V U) (XP Z a r)) (mv : MV y b n1 (some .int) k) (hl : Cond.methodLink "NeverBothDoorsLaw" idx y ∈ UW) (hk : As.length = k) (hd1 : d1 + 1 ≤ 11) (hy : y.cls = RR_X) (hst : st0 = As.reverse ++ .ref (a 0 0) :: st) (hcat : (st.map fun v => v.category).sum ≤ 8) (hd : decode code pc = .ok (.invokevirtual idx, 3)) (kk : ∀ Sm1 V1, G X Z (wX Z a r.2.1 Sm1 r.2.2.1 r.2.2.2.1 V1 r.2.2.2.2 ++ wM Z h q S) (pc + 3) lv (.int r.1 :: st)) : G X Z (wX Z a Sn Sm Sk T V U ++ wM Z h q S) pc lv st0 := by
  have hc : classes[3]? = some (y.cls, FF_X, 9) := by rw [hy]; rfl
  refine g_callV hX con mv hl hk hd1 0 rfl hc hst hcat hd (List.range 54) (by decide +kernel) (sub_mid (wX Z a Sn Sm Sk T V U) (wM Z h q S)) (fun v wc1 hp => ?_)
  obtain ⟨rfl, Sm1, V1, rfl⟩ := hp
  have e : putW (wX Z a Sn Sm Sk T V U ++ wM Z h q S) (List.range 54) (wX Z a r.2.1 Sm1 r.2.2.1 r.2.2.2.1 V1 r.2.2.2.2) = _ := putW_mid (wX Z a Sn Sm Sk T V U) (wX Z a r.2.1 Sm1 r.2.2.1 r.2.2.2.1 V1 r.2.2.2.2) (wM Z h q S) rfl
  rw [e]
  exact kk Sm1 V1
theorem law_atM (w1 : va_W) (Z : ZZ) (h : Nat) (q : Nat → Nat) (S S' : St) (is : List Nat) (hi : is = (List.range 22).map (· + w1.length)) : putW (w1 ++ wM Z h q S) is (wM Z h q S') = w1 ++ wM Z h q S' := by
  have e := putW_at w1 (wM Z h q S) (wM Z h q S') [] is rfl hi
  rwa [List.append_nil, List.append_nil] at e
theorem law_subM (w1 : va_W) (Z : ZZ) (h : Nat) (q : Nat → Nat) (S : St) (is : List Nat) (hi : is = (List.range 22).map (· + w1.length)) : is.map (fun i => (w1 ++ wM Z h q S)[i]?) = (wM Z h q S).map some := by
  have e := sub_at w1 (wM Z h q S) [] is hi
  rwa [List.append_nil] at e
theorem law_callM {X : XX} {Z : ZZ} {l : Launch} {pc : Nat} {lv : List (Nat × Value)} {st st0 : List Value} (hX : Okk X Z code 4 "NeverBothDoorsLaw" l 11) {a : Nat → Nat → Nat} {h : Nat} {q : Nat → Nat} {Sn Sm Sk T V U S : St} {y : MethodName} {b : ByteArray} {n1 d1 idx k : Nat} {As : List Value} {nL : Nat} {r : Int32 × St} (con : Con l Z y b n1 (some .int) d1 (.ref h :: As) (wM Z h q S) (MIq Z h q nL r)) (mv : MV y b n1 (some .int) k) (hl : Cond.methodLink "NeverBothDoorsLaw" idx y ∈ UW) (hk : As.length = k) (hd1 : d1 + 1 ≤ 11) (hy : y.cls = RR_M) (hst : st0 = As.reverse ++ .ref h :: st) (hcat : (st.map fun v => v.category).sum ≤ 8) (hd : decode code pc = .ok (.invokevirtual idx, 3)) (kk : ∀ S', Scr nL r.2 S' → G X Z (wX Z a Sn Sm Sk T V U ++ wM Z h q S') (pc + 3) lv (.int r.1 :: st)) : G X Z (wX Z a Sn Sm Sk T V U ++ wM Z h q S) pc lv st0 := by
  have hc : classes[4]? = some (y.cls, FF_M, 29) := by rw [hy]; rfl
  refine g_callV hX con mv hl hk hd1 54 rfl hc hst hcat hd ((List.range 22).map (· + 54)) (by decide +kernel) (law_subM (wX Z a Sn Sm Sk T V U) Z h q S _ rfl) (fun v wc1 hp => ?_)
  obtain ⟨rfl, S', hs, rfl⟩ := hp
  rw [law_atM (wX Z a Sn Sm Sk T V U) Z h q S S' ((List.range 22).map (· + 54)) rfl]
  exact kk S' hs
theorem law_callP {X : XX} {Z : ZZ} {l : Launch} {pc : Nat} {lv : List (Nat × Value)} {st st0 : List Value} (hX : Okk X Z code 4 "NeverBothDoorsLaw" l 11) {a : Nat → Nat → Nat} {h : Nat} {q : Nat → Nat} {Sn Sm Sk T V U S : St} {y : MethodName} {b : ByteArray} {n1 d1 idx k : Nat} {As : List Value} {r : Int32 × St} (con : Con l Z y b n1 (some .int) d1 (.ref h :: As) (wM Z h q S) (MP Z h q r)) (mv : MV y b n1 (some .int) k) (hl : Cond.methodLink "NeverBothDoorsLaw" idx y ∈ UW) (hk : As.length = k) (hd1 : d1 + 1 ≤ 11) (hy : y.cls = RR_M) (hst : st0 = As.reverse ++ .ref h :: st) (hcat : (st.map fun v => v.category).sum ≤ 8) (hd : decode code pc = .ok (.invokevirtual idx, 3)) (kk : G X Z (wX Z a Sn Sm Sk T V U ++ wM Z h q r.2) (pc + 3) lv (.int r.1 :: st)) : G X Z (wX Z a Sn Sm Sk T V U ++ wM Z h q S) pc lv st0 := by
  have hc : classes[4]? = some (y.cls, FF_M, 29) := by rw [hy]; rfl
  refine g_callV hX con mv hl hk hd1 54 rfl hc hst hcat hd ((List.range 22).map (· + 54)) (by decide +kernel) (law_subM (wX Z a Sn Sm Sk T V U) Z h q S _ rfl) (fun v wc1 hp => ?_)
  obtain ⟨rfl, rfl⟩ := hp
  rw [law_atM (wX Z a Sn Sm Sk T V U) Z h q S r.2 ((List.range 22).map (· + 54)) rfl]
  exact kk
theorem law_end {X : XX} {Z : ZZ} {l : Launch} {ws : va_W} {pc : Nat} {lv : List (Nat × Value)} {off : Int} {v v' : Int32} (hX : Okk X Z code 4 "NeverBothDoorsLaw" l 11) (hd : decode code pc = .ok (.if_icmp .eq off, 3)) (ht : (pc : Int) + off = ((824 : Nat) : Int)) (e : v' = v) (kk : G X Z ws 824 lv []) : G X Z ws pc lv [.int v', .int v] := g_icmp_eq hX 824 hd ht (fun _ => kk) (fun h => absurd e.symm h)
theorem Scr.mono {nL n2 : Nat} {S S' : St} (h : Scr nL S S') (hn : n2 ≤ nL) : Scr n2 S S' := fun k a1 a2 a3 a4 a5 j j1 j2 => h k a1 a2 a3 a4 a5 j j1 (fun q => j2 ⟨q.1, q.2.1, Nat.le_trans hn q.2.2⟩)
theorem Rel.scr8 {Sn Sk T U S S' : St} (h : Rel Sn Sk T U S) (hs : Scr 8 S S') : Rel Sn Sk T U S' := by
  obtain ⟨nP, nL, o, t, c, u, hB⟩ := h.1
  have h7 := hB.2.2.2.1
  exact h.scr hB.2.2.1 (by omega) (hs.mono (by omega))
theorem and_31 (z : Int32) : ∃ j, j < 32 ∧ z &&& 31 = nI j := by
  have h1 : (z &&& 31).toBitVec.toNat ≤ 31 := by
    show (z.toBitVec &&& (31 : Int32).toBitVec).toNat ≤ 31
    rw [BitVec.toNat_and]
    exact Nat.and_le_right
  refine ⟨(z &&& 31).toBitVec.toNat, by omega, ?_⟩
  apply Int32.toBitVec_inj.mp
  show (z &&& 31).toBitVec = BitVec.ofNat 32 _
  rw [BitVec.ofNat_toNat, BitVec.setWidth_eq]
theorem law_cmp {L k : Nat} (hL : L ≤ 1536) (hk : k ≤ 513) (h : ¬ nI L - 3 < nI (3 * k)) : 3 * k + 2 < L := by
  apply Nat.not_le.mp
  intro hc
  apply h
  by_cases h3 : 3 ≤ L
  · obtain ⟨n, rfl⟩ : ∃ n, L = n + 3 := ⟨L - 3, by omega⟩
    rw [show nI (n + 3) - 3 = nI n from by rw [← nI_add n 3]; show nI n + 3 - 3 = nI n; rw [Int32.add_sub_cancel]]
    exact nI_lt (by omega) (by omega)
  · have h4 : nI L - 3 < 0 := by
      have h5 : L = 0 ∨ L = 1 ∨ L = 2 := by omega
      rcases h5 with rfl | rfl | rfl <;> decide
    exact Int32.lt_of_lt_of_le h4 (nI_pos' (by omega))
theorem Same.pre {Z : ZZ} {w1 w2 w2' : va_W} (h : Same Z w2 w2') : Same Z (w1 ++ w2) (w1 ++ w2') := by
  refine ⟨by rw [List.map_append, List.map_append, h.1], fun H hP => ?_⟩
  rw [va_P_app] at hP ⊢
  exact ⟨hP.1, h.2 H hP.2⟩
