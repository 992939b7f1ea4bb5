/-! calls: what a method's words say, and a row a kind of call -/
def MV (y : MethodName) (b : ByteArray) (n : Nat) (ret : Option FieldType) (k : Nat) : Prop := Cond.instanceMethod y ∈ UW ∧ Cond.selects y.cls y y ∈ UW ∧ Cond.initialized y.cls ∈ UW ∧ Cond.code y b n ret ∈ UW ∧ (y.cls ≠ "java/lang/invoke/MethodHandle" ∧ y.cls ≠ "java/lang/invoke/VarHandle" ∧ (parseMethodDescriptor y.desc).map (fun d => d.parameters.length) = some k) ∧ n ≤ 18
def MS (y : MethodName) (b : ByteArray) (n : Nat) (ret : Option FieldType) (k : Nat) : Prop := Cond.static y ∈ UW ∧ Cond.initialized y.cls ∈ UW ∧ Cond.code y b n ret ∈ UW ∧ (y.cls ≠ "java/lang/invoke/MethodHandle" ∧ y.cls ≠ "java/lang/invoke/VarHandle" ∧ (parseMethodDescriptor y.desc).map (fun d => d.parameters.length) = some k) ∧ n ≤ 18
/-- the end of a call that answers so, and leaves the cells so -/
def Fn (v : Option Value) (ws1 : va_W) : Option Value → va_W → Prop := fun v' ws' => v' = v ∧ ws' = ws1
theorem g_callV {X : XX} {Z : ZZ} {cc : ByteArray} {n : Nat} {own : String} {l0 : Launch} {d : Nat} {ws wc : va_W} {pc : Nat} {lv : List (Nat × Value)} {st st0 : List Value} (hX : Okk X Z cc n own l0 d) {Post : Option Value → va_W → Prop} {y : MethodName} {b : ByteArray} {n1 d1 idx k a ci N : Nat} {ret : Option FieldType} {As : List Value} {fs : List Value} {T : u_T}
    (con : Con l0 Z y b n1 ret d1 (.ref a :: As) wc Post) (mv : MV y b n1 ret k) (hl : Cond.methodLink own idx y ∈ UW) (hk : As.length = k) (hd1 : d1 + 1 ≤ d) (q0 : Nat) (he : ws[q0]? = some (a, .inr (ci, fs))) (hc : classes[ci]? = some (y.cls, T, N)) (hst : st0 = As.reverse ++ .ref a :: st) (hcat : (st.map fun v => v.category).sum ≤ 8) (hd : decode cc pc = .ok (.invokevirtual idx, 3)) (is : List Nat) (hnd : va_nd is = true) (hC : is.map (fun i => ws[i]?) = wc.map some)
    (kk : ∀ (v : Option Value) (wc1 : va_W), Post v wc1 → G X Z (putW ws is wc1) (pc + 3) lv (v.toList ++ st)) : G X Z ws pc lv st0 := by
  refine g_callC hX is hnd hC kk ?_
  obtain ⟨p, l, e, R, s, m, args, below, meth, c, kc, ks, Q, nL, A⟩ := X
  obtain ⟨hx, hb, hml, hown, hts, hK, hA, hlk, hE, hAB, hzB, hR, rfl, rfl⟩ := hX
  obtain ⟨m1, m2, m3, m4, m5, m6⟩ := mv
  intro ls H locs h hP hPc hDc hsz hEU
  refine ⟨(Value.ref a :: As).toArray, va_runV (As := As) (rest := st) (C := y.cls) (b := a) ⟨hx, hb, hml, hown, hts⟩ (con H.size) (cwV k hts (fun w hw => ?_) rfl rfl rfl ⟨rfl, m5⟩ ⟨?_, ?_⟩) ⟨PcZ.blind Z _ wc _, va_recv (D := zD Z) (cl := classes) hK hP hc he, fun U hU hW => ⟨rfl, by rw [hU], by rw [hU]; exact hPc, va_K.moved hW.alike hK, hDc.weaken (fun _ q _ h => hAB _ h), by rw [hU]; exact hEU U hU hW, fun q hq => hzB q (Nat.le_trans hsz hq)⟩⟩ rfl hk h.1 hst (lv_room hcat) hd ⟨hR.1, hR.2.1⟩⟩
  · have hw' : w = .methodLink own idx y ∨ w = .instanceMethod y ∨ w = .selects y.cls y y ∨ w = .initialized y.cls ∨ w ∈ (Cond.code y b n1 ret :: UW) := by simpa [wsV] using hw
    rcases hw' with rfl | rfl | rfl | rfl | hw'
    · exact ⟨hl, uw_good _ hl⟩
    · exact ⟨m1, uw_good _ m1⟩
    · exact ⟨m2, uw_good _ m2⟩
    · exact ⟨m3, uw_good _ m3⟩
    · exact uw_goodL _ m4 _ hw'
  · exact Nat.le_trans hd1 hR.2.2.1
  · show 8 + (n1 + 11) + 37 * d1 ≤ R.locals
    have := hR.2.2.2
    omega
theorem g_callS {X : XX} {Z : ZZ} {cc : ByteArray} {n : Nat} {own : String} {l0 : Launch} {d : Nat} {ws wc : va_W} {pc : Nat} {lv : List (Nat × Value)} {st st0 : List Value} (hX : Okk X Z cc n own l0 d) {Post : Option Value → va_W → Prop} {y : MethodName} {b : ByteArray} {n1 d1 idx k : Nat} {ret : Option FieldType} {As : List Value}
    (con : Con l0 Z y b n1 ret d1 As wc Post) (mv : MS y b n1 ret k) (hl : Cond.methodLink own idx y ∈ UW) (hk : As.length = k) (hd1 : d1 + 1 ≤ d) (hst : st0 = As.reverse ++ st) (hcat : (st.map fun v => v.category).sum ≤ 8) (hd : decode cc pc = .ok (.invokestatic idx, 3)) (is : List Nat) (hnd : va_nd is = true) (hC : is.map (fun i => ws[i]?) = wc.map some)
    (kk : ∀ (v : Option Value) (wc1 : va_W), Post v wc1 → G X Z (putW ws is wc1) (pc + 3) lv (v.toList ++ st)) : G X Z ws pc lv st0 := by
  refine g_callC hX is hnd hC kk ?_
  obtain ⟨p, l, e, R, s, m, args, below, meth, c, kc, ks, Q, nL, A⟩ := X
  obtain ⟨hx, hb, hml, hown, hts, hK, hA, hlk, hE, hAB, hzB, hR, rfl, rfl⟩ := hX
  obtain ⟨m2, m3, m4, m5, m6⟩ := mv
  intro ls H locs h hP hPc hDc hsz hEU
  refine ⟨As.toArray, va_runS (As := As) (rest := st) ⟨hx, hb, hml, hown, hts⟩ (con H.size) ⟨callB_of k hts (uw_goodL _ m4) rfl rfl rfl (hts _ m3) (hts _ hl) m5 ⟨?_, ?_⟩, hts _ m2⟩ ⟨PcZ.blind Z _ wc _, fun U hU hW => ⟨rfl, by rw [hU], by rw [hU]; exact hPc, va_K.moved hW.alike hK, hDc.weaken (fun _ q _ h => hAB _ h), by rw [hU]; exact hEU U hU hW, fun q hq => hzB q (Nat.le_trans hsz hq)⟩⟩ rfl hk h.1 hst (lv_room hcat) hd ⟨hR.1, hR.2.1⟩⟩
  · exact Nat.le_trans hd1 hR.2.2.1
  · show 8 + (n1 + 11) + 37 * d1 ≤ R.locals
    have := hR.2.2.2
    omega
theorem g_callN {X : XX} {Z : ZZ} {cc : ByteArray} {n : Nat} {own host : String} {l0 : Launch} {d : Nat} {ws wc : va_W} {pc : Nat} {lv : List (Nat × Value)} {st st0 : List Value} (hX : Okk X Z cc n own l0 d) {Post : Option Value → va_W → Prop} {y : MethodName} {b : ByteArray} {n1 d1 idx k : Nat} {ret : Option FieldType} {As : List Value}
    (con : Con l0 Z y b n1 ret d1 As wc Post) (mv : MS y b n1 ret k) (hl : ∀ U H, EN Z U H → va_Nw (.methodLinkNest own idx y host) U) (hk : As.length = k) (hd1 : d1 + 1 ≤ d) (hst : st0 = As.reverse ++ st) (hcat : (st.map fun v => v.category).sum ≤ 8) (hd : decode cc pc = .ok (.invokestatic idx, 3)) (is : List Nat) (hnd : va_nd is = true) (hC : is.map (fun i => ws[i]?) = wc.map some)
    (kk : ∀ (v : Option Value) (wc1 : va_W), Post v wc1 → G X Z (putW ws is wc1) (pc + 3) lv (v.toList ++ st)) : G X Z ws pc lv st0 := by
  refine g_callC hX is hnd hC kk ?_
  obtain ⟨p, l, e, R, s, m, args, below, meth, c, kc, ks, Q, nL, A⟩ := X
  obtain ⟨hx, hb, hml, hown, hts, hK, hA, hlk, hE, hAB, hzB, hR, rfl, rfl⟩ := hX
  obtain ⟨m2, m3, m4, m5, m6⟩ := mv
  intro ls H locs h hP hPc hDc hsz hEU
  refine ⟨As.toArray, va_runSN (As := As) (rest := st) ⟨hx, hb, hml, hown, hts⟩ (con H.size) ⟨va_cnB k hts (uw_goodL _ m4) rfl rfl rfl (hl s _ hE) (hts _ m3) m5 ⟨?_, ?_⟩, hts _ m2, trivial⟩ ⟨PcZ.blind Z _ wc _, fun U hU hW => ⟨rfl, by rw [hU], by rw [hU]; exact hPc, va_K.moved hW.alike hK, hDc.weaken (fun _ q _ h => hAB _ h), by rw [hU]; exact hEU U hU hW, fun q hq => hzB q (Nat.le_trans hsz hq)⟩⟩ rfl hk h.1 hst (lv_room hcat) hd ⟨hR.1, hR.2.1⟩⟩
  · exact Nat.le_trans hd1 hR.2.2.1
  · show 8 + (n1 + 11) + 37 * d1 ≤ R.locals
    have := hR.2.2.2
    omega
theorem g_fn {X : XX} {Z : ZZ} {ws ws1 wc1 : va_W} {pc : Nat} {lv : List (Nat × Value)} {st st1 : List Value} {is : List Nat} {v : Option Value} (hw : putW ws is wc1 = ws1) (hs : v.toList ++ st = st1) (kk : G X Z ws1 (pc + 3) lv st1) : ∀ (v' : Option Value) (w' : va_W), Fn v wc1 v' w' → G X Z (putW ws is w') (pc + 3) lv (v'.toList ++ st) := by
  rintro _ _ ⟨rfl, rfl⟩
  rw [hw, hs]
  exact kk
-- loops
theorem loopUp (P : Nat → Prop) (N : Nat) (hx : P N) (hs : ∀ i, i < N → P (i + 1) → P i) : ∀ i, i ≤ N → P i := by
  intro i hi
  obtain ⟨k, rfl⟩ : ∃ k, N = i + k := ⟨N - i, by omega⟩
  induction k generalizing i with
  | zero => exact hx
  | succ k ih => exact hs i (by omega) (ih (i + 1) (by rw [show i + 1 + k = i + (k + 1) by omega]; exact hx) (fun j hj => hs j (by omega)) (by omega))
-- the state: rows of ints, by numbers
abbrev St : Type := Nat → Nat → Int32
def sw (S : St) (k i : Nat) (v : Int32) : St := fun a => if a = k then upd (S a) i v else S a
theorem sw_eq (S : St) (k i : Nat) (v : Int32) : sw S k i v k = upd (S k) i v := if_pos rfl
theorem sw_ne (S : St) {k a : Nat} (i : Nat) (v : Int32) (h : a ≠ k) : sw S k i v a = S a := if_neg h
abbrev wB (Z : ZZ) (h : Nat) (q : Nat → Nat) (S : St) : va_W := [(h, .inr (0, [.ref (q 0), .ref (q 1), .ref (q 2), .ref (q 3), .ref (q 4), .ref (q 5), .ref (q 6), .int (S 12 0), .ref (q 7), .ref (q 8), .ref (q 9), .ref (q 10), .int (S 12 1), .ref (q 11), .int (S 12 2), .int (S 12 3)])), (q 0, .inl (zI Z, 6, .inl (S 0))), (q 1, .inl (zI Z, 6, .inl (S 1))), (q 2, .inl (zI Z, 7, .inl (S 2))), (q 3, .inl (zI Z, 7, .inl (S 3))), (q 4, .inl (zI Z, 7, .inl (S 4))), (q 5, .inl (zI Z, 7, .inl (S 5))), (q 6, .inl (zI Z, 7, .inl (S 6))), (q 7, .inl (zI Z, 5, .inl (S 7))), (q 8, .inl (zI Z, 5, .inl (S 8))), (q 9, .inl (zI Z, 5, .inl (S 9))), (q 10, .inl (zI Z, 5, .inl (S 10))), (q 11, .inl (zI Z, 6, .inl (S 11)))]
abbrev wT (Z : ZZ) (h : Nat) (q : Nat → Nat) (S : St) : va_W := [(h, .inr (1, [.ref (q 0), .int (S 1 0)])), (q 0, .inl (zI Z, 96, .inl (S 0)))]
abbrev wW (Z : ZZ) (h : Nat) (q : Nat → Nat) (S : St) : va_W := [(h, .inr (2, [.ref (q 7), .ref (q 8)])), (q 0, .inl (zI Z, 7, .inl (S 0))), (q 1, .inl (zI Z, 7, .inl (S 1))), (q 2, .inl (zI Z, 7, .inl (S 2))), (q 3, .inl (zI Z, 7, .inl (S 3))), (q 4, .inl (zI Z, 7, .inl (S 4))), (q 5, .inl (zI Z, 7, .inl (S 5))), (q 6, .inl (zI Z, 7, .inl (S 6))), (q 7, .inl (zJ Z, 7, .inr (.inr (.inr (.inr (fun i => if i < 7 then some (q i) else none)))))), (q 8, .inl (zI Z, 896, .inl (S 8)))]
abbrev wM (Z : ZZ) (h : Nat) (q : Nat → Nat) (S : St) : va_W := [(h, .inr (4, [.ref (q 0), .ref (q 1), .int (S 12 0), .ref (q 2), .ref (q 3), .ref (q 4), .ref (q 5), .ref (q 6), .int (S 12 1), .ref (q 7), .ref (q 8), .ref (q 9), .ref (q 10), .int (S 12 2), .ref (q 11), .int (S 12 3), .int (S 12 4), .ref (q 13), .int (S 12 5), .ref (q 14), .int (S 12 6), .ref (q 15), .ref (q 16), .int (S 12 7), .ref (q 17), .ref (q 18), .ref (q 19), .ref (q 20), .ref (q 21)])), (q 0, .inl (zI Z, 6, .inl (S 0))), (q 1, .inl (zI Z, 6, .inl (S 1))), (q 2, .inl (zI Z, 8, .inl (S 2))), (q 3, .inl (zI Z, 8, .inl (S 3))), (q 4, .inl (zI Z, 8, .inl (S 4))), (q 5, .inl (zI Z, 8, .inl (S 5))), (q 6, .inl (zI Z, 8, .inl (S 6))), (q 7, .inl (zI Z, 5, .inl (S 7))), (q 8, .inl (zI Z, 5, .inl (S 8))), (q 9, .inl (zI Z, 5, .inl (S 9))), (q 10, .inl (zI Z, 5, .inl (S 10))), (q 11, .inl (zI Z, 7, .inl (S 11))), (q 13, .inl (zI Z, 96, .inl (S 13))), (q 14, .inl (zI Z, 4, .inl (S 14))), (q 15, .inl (zI Z, 12, .inl (S 15))), (q 16, .inl (zI Z, 7, .inl (S 16))), (q 17, .inl (zI Z, 77, .inl (S 17))), (q 18, .inl (zI Z, 77, .inl (S 18))), (q 19, .inl (zI Z, 7, .inl (S 19))), (q 20, .inl (zI Z, 896, .inl (S 20))), (q 21, .inl (zI Z, 7, .inl (S 21)))]
abbrev wX (Z : ZZ) (a : Nat → Nat → Nat) (Sn Sm Sk T L U : St) : va_W := [(a 0 0, .inr (3, [.ref (a 1 0), .ref (a 2 0), .ref (a 3 0), .int (U 0 0), .ref (a 4 0), .ref (a 5 0), .ref (a 0 1), .int (U 0 1), .ref (a 0 2)])), (a 0 1, .inl (zI Z, 12, .inl (U 1))), (a 0 2, .inl (zI Z, 7, .inl (U 2)))] ++ (wB Z (a 1 0) (fun k => a 1 (k + 1)) Sn ++ (wB Z (a 2 0) (fun k => a 2 (k + 1)) Sm ++ (wB Z (a 3 0) (fun k => a 3 (k + 1)) Sk ++ (wT Z (a 4 0) (fun k => a 4 (k + 1)) T ++ wW Z (a 5 0) (fun k => a 5 (k + 1)) L))))
