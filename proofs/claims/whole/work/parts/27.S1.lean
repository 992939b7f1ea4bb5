/-! the literals: rows -/
abbrev adK (Z : ZZ) : Nat → Nat := Z.2.2.2.1
abbrev adV (Z : ZZ) : Nat → Nat := Z.2.2.2.2.1
theorem g_getsI {X : XX} {Z : ZZ} {cc : ByteArray} {n : Nat} {own : String} {l0 : Launch} {d : Nat} {ws : va_W} {pc : Nat} {lv : List (Nat × Value)} {st : List Value} (hX : Okk X Z cc n own l0 d) {idx : Nat} (hl : Cond.fieldLink own idx "java/lang/String" "COMPACT_STRINGS" "Z" ∈ UW) (hd : decode cc pc = .ok (.getstatic idx, 3)) (kk : G X Z ws (pc + 3) lv (.int 1 :: st)) : G X Z ws pc lv st := by
  obtain ⟨p, l, e, R, s, m, args, below, meth, c, kc, ks, Q, nL, A⟩ := X
  obtain ⟨hx, hb, hml, hown, hts, hK, hA, hlk, hE, hAB, hzB, hR, rfl, rfl⟩ := hX
  intro ls H locs h hP hD hS
  exact va_gets hx hb (hE.2.2.2.1.narrow hAB) hS hown (hts _ hl) (fun _ q => q) hd (kk ls H locs h hP hD hS)
theorem g_getsQ {X : XX} {Z : ZZ} {cc : ByteArray} {n : Nat} {own : String} {l0 : Launch} {d : Nat} {ws : va_W} {pc : Nat} {lv : List (Nat × Value)} {st : List Value} (hX : Okk X Z cc n own l0 d) {idx : Nat} (hl : Cond.fieldLink own idx "jdk/internal/util/Preconditions" "SIOOBE_FORMATTER" "Ljava/util/function/BiFunction;" ∈ UW) (hd : decode cc pc = .ok (.getstatic idx, 3)) (kk : ∀ v : Value, (v = .null ∨ ∃ t, v = .ref t) → G X Z ws (pc + 3) lv (v :: st)) : G X Z ws pc lv st := by
  obtain ⟨p, l, e, R, s, m, args, below, meth, c, kc, ks, Q, nL, A⟩ := X
  obtain ⟨hx, hb, hml, hown, hts, hK, hA, hlk, hE, hAB, hzB, hR, rfl, rfl⟩ := hX
  intro ls H locs h hP hD hS
  rcases hE.2.2.2.2 with hz | ⟨t, hz⟩
  · exact va_gets hx hb (hz.narrow hAB) hS hown (hts _ hl) (fun _ q => q) hd (kk _ (Or.inl rfl) ls H locs h hP hD hS)
  · exact va_gets hx hb (hz.narrow hAB) hS hown (hts _ hl) (fun _ q => q) hd (kk _ (Or.inr ⟨t, rfl⟩) ls H locs h hP hD hS)
theorem g_sval {X : XX} {Z : ZZ} {cc : ByteArray} {n : Nat} {own : String} {l0 : Launch} {d : Nat} {ws : va_W} {pc : Nat} {lv : List (Nat × Value)} {st : List Value} (hX : Okk X Z cc n own l0 d) {idx i : Nat} (hi : i < 6) (hl : Cond.fieldLink own idx "java/lang/String" "value" "[B" ∈ UW) (hd : decode cc pc = .ok (.getfield idx, 3)) (kk : G X Z ws (pc + 3) lv (.ref (adV Z i) :: st)) : G X Z ws pc lv (.ref (adK Z i) :: st) := by
  obtain ⟨p, l, e, R, s, m, args, below, meth, c, kc, ks, Q, nL, A⟩ := X
  obtain ⟨hx, hb, hml, hown, hts, hK, hA, hlk, hE, hAB, hzB, hR, rfl, rfl⟩ := hX
  intro ls H locs h hP hD hS
  exact vk_getf hx hb ((hE.2.2.1.1 i hi).2.2.1.narrow hAB) hS hown (hts _ hl) (fun _ q => q) hd (kk ls H locs h hP hD hS)
theorem g_scod {X : XX} {Z : ZZ} {cc : ByteArray} {n : Nat} {own : String} {l0 : Launch} {d : Nat} {ws : va_W} {pc : Nat} {lv : List (Nat × Value)} {st : List Value} (hX : Okk X Z cc n own l0 d) {idx i : Nat} (hi : i < 6) (hl : Cond.fieldLink own idx "java/lang/String" "coder" "B" ∈ UW) (hd : decode cc pc = .ok (.getfield idx, 3)) (kk : G X Z ws (pc + 3) lv (.int 0 :: st)) : G X Z ws pc lv (.ref (adK Z i) :: st) := by
  obtain ⟨p, l, e, R, s, m, args, below, meth, c, kc, ks, Q, nL, A⟩ := X
  obtain ⟨hx, hb, hml, hown, hts, hK, hA, hlk, hE, hAB, hzB, hR, rfl, rfl⟩ := hX
  intro ls H locs h hP hD hS
  exact vk_getf hx hb ((hE.2.2.1.1 i hi).2.1.narrow hAB) hS hown (hts _ hl) (fun _ q => q) hd (kk ls H locs h hP hD hS)
theorem g_slen {X : XX} {Z : ZZ} {cc : ByteArray} {n : Nat} {own : String} {l0 : Launch} {d : Nat} {ws : va_W} {pc : Nat} {lv : List (Nat × Value)} {st : List Value} (hX : Okk X Z cc n own l0 d) {i : Nat} (hi : i < 6) (hd : decode cc pc = .ok (.arraylength, 1)) (kk : G X Z ws (pc + 1) lv (.int (nI (sLen.getD i 0)) :: st)) : G X Z ws pc lv (.ref (adV Z i) :: st) := by
  obtain ⟨p, l, e, R, s, m, args, below, meth, c, kc, ks, Q, nL, A⟩ := X
  obtain ⟨hx, hb, hml, hown, hts, hK, hA, hlk, hE, hAB, hzB, hR, rfl, rfl⟩ := hX
  intro ls H locs h hP hD hS
  obtain ⟨cell, h1, h2, h3, h4, h5, h6, h7⟩ := ((hE.2.2.1.1 i hi).2.2.2.narrow hAB).kept hS.2.1
  exact W.alen hx hb h1 h2 h5 rfl rfl hd (kk ls H locs h hP hD hS)
theorem sLen_lt : ∀ i, i < 6 → sLen.getD i 0 < 2 ^ 31 := by decide
theorem g_sbald {X : XX} {Z : ZZ} {cc : ByteArray} {n : Nat} {own : String} {l0 : Launch} {d : Nat} {ws : va_W} {pc : Nat} {lv : List (Nat × Value)} {st : List Value} (hX : Okk X Z cc n own l0 d) {i : Nat} {x : Int32} (hi : i < 6) (j : Nat) (hj : j < sLen.getD i 0) (hx9 : x = nI j) (hd : decode cc pc = .ok (.baload, 1)) (kk : G X Z ws (pc + 1) lv (.int ((sByt.getD i []).getD j 0) :: st)) : G X Z ws pc lv (.int x :: .ref (adV Z i) :: st) := by
  obtain ⟨p, l, e, R, s, m, args, below, meth, c, kc, ks, Q, nL, A⟩ := X
  obtain ⟨hx, hb, hml, hown, hts, hK, hA, hlk, hE, hAB, hzB, hR, rfl, rfl⟩ := hX
  intro ls H locs h hP hD hS
  subst hx9
  obtain ⟨cell, h1, h2, h3, h4, h5, h6, h7⟩ := ((hE.2.2.1.1 i hi).2.2.2.narrow hAB).kept hS.2.1
  have hL := sLen_lt i hi
  have e1 := nI_clamp (n := j) (by omega)
  exact W.bald hx hb h1 h2 h3 (by rw [e1]; intro q; rcases q with q | q; exact nI_pos (by omega) q; omega) (by rw [e1]; exact h6 j hj) rfl rfl hd (kk ls H locs h hP hD hS)
theorem g_ldcS {X : XX} {Z : ZZ} {cc : ByteArray} {n : Nat} {own : String} {l0 : Launch} {d : Nat} {ws : va_W} {pc : Nat} {lv : List (Nat × Value)} {st : List Value} (hX : Okk X Z cc n own l0 d) {idx i : Nat} (hi : i < 6) (ho : sOw i = own) (hi2 : sIx i = idx) (hd : decode cc pc = .ok (.ldc idx, 2)) (kk : G X Z ws (pc + 2) lv (.ref (adK Z i) :: st)) : G X Z ws pc lv st := by
  obtain ⟨p, l, e, R, s, m, args, below, meth, c, kc, ks, Q, nL, A⟩ := X
  obtain ⟨hx, hb, hml, hown, hts, hK, hA, hlk, hE, hAB, hzB, hR, rfl, rfl⟩ := hX
  intro ls H locs h hP hD hS
  subst ho hi2
  exact va_ldcS hx hb hown (hE.2.1 i hi) hd (kk ls H locs h hP hD hS)
theorem r_aret {X : XX} {Z : ZZ} {cc : ByteArray} {n : Nat} {own : String} {l0 : Launch} {d : Nat} {ws : va_W} {pc : Nat} {lv : List (Nat × Value)} (hX : Okk X Z cc n own l0 d) {ws0 : va_W} {Post : Option Value → va_W → Prop} {rt : FieldType} {a : Nat} (hQ : Ret X Z ws0 Post (some rt)) (hn : ∃ z, rt = .object z) (hd : decode cc pc = .ok (.areturn, 1)) (hk : ws.map (·.1) = ws0.map (·.1)) (hp : Post (some (.ref a)) ws) : G X Z ws pc lv [.ref a] := by
  obtain ⟨p, l, e, R, s, m, args, below, meth, c, kc, ks, Q, nL, A⟩ := X
  obtain ⟨hx, hb, hml, hown, hts, hK, hA, hlk, hE, hAB, hzB, hR, rfl, rfl⟩ := hX
  obtain ⟨rfl, rfl, hr, rfl, rfl⟩ := hQ
  intro ls H locs h hP hD hS
  exact W.aret hx hb hr (Or.inl hn) (Or.inr ⟨_, rfl⟩) (fun t ht hW => ⟨⟨_, ws, rfl, hp, hk, by rw [ht]; exact hP⟩, hS.F ht⟩) hS.2.2 hd hlk
theorem g_callC2 {X : XX} {Z : ZZ} {cc : ByteArray} {n : Nat} {own : String} {l0 : Launch} {d : Nat} {ws wc : va_W} {pc : Nat} {lv : List (Nat × Value)} {st st0 : List Value} (hX : Okk X Z cc n own l0 d) {Post : Option Value → va_W → Prop} (is : List Nat) (hnd : va_nd is = true) (hC : is.map (fun i => ws[i]?) = wc.map some) (kk : ∀ (v : Option Value) (wc1 : va_W), Post v wc1 → G X Z (putW ws is wc1) (pc + 3) lv (v.toList ++ st))
    (hr : match X with | (p, l, e, R, s, m, args, below, meth, c, kc, ks, Q, nL, A) => ∀ (ls : Array Slot) (H : Heap) (locs : List Loc), lv_has ls nL lv → va_P (zD Z) classes ws H → va_P (zD Z) classes wc H → va_D A wc → va_S A s.heap H locs → (∀ U : State, U.heap = H → s.WarmedH U.vm → EN Z U H) → ∃ a : Array Value, va_Run p l e R s m args below meth c H locs kc ks 0 0 (F0 m pc ls st0) st (QcZ Z wc H.size Post a) (va_A wc H.size)) : G X Z ws pc lv st0 := by
  obtain ⟨p, l, e, R, s, m, args, below, meth, c, kc, ks, Q, nL, A⟩ := X
  obtain ⟨hx, hb, hml, hown, hts, hK, hA, hlk, hE, hAB, hzB, hR, rfl, rfl⟩ := hX
  intro ls H locs h hP hD hS
  have hPc : va_P (zD Z) classes wc H := by
    intro k q hq
    have h1 : (is.map (fun i => ws[i]?))[k]? = some (some q) := by rw [hC, List.getElem?_map, hq]; rfl
    rw [List.getElem?_map] at h1
    cases hi : is[k]? with
    | none => rw [hi] at h1; cases h1
    | some i => rw [hi] at h1; exact hP i q (Option.some.inj h1)
  have at' : ∀ (k : Nat) (q : Nat × va_E), wc[k]? = some q → ∃ i : Nat, is[k]? = some i ∧ ws[i]? = some q := by
    intro k q hq
    have h1 : (is.map (fun i => ws[i]?))[k]? = some (some q) := by rw [hC, List.getElem?_map, hq]; rfl
    rw [List.getElem?_map] at h1
    cases hi : is[k]? with
    | none => rw [hi] at h1; cases h1
    | some i => rw [hi] at h1; exact ⟨i, rfl, Option.some.inj h1⟩
  have hF := va_free (wc := wc) hD hS hA is hC
  have hDn : ∀ (i : Nat), i ∈ is → ∃ (k : Nat) (q : Nat × va_E), wc[k]? = some q ∧ ws[i]? = some q := by
    intro i hi
    obtain ⟨k, hk⟩ := List.getElem?_of_mem hi
    have h1 : (wc.map some)[k]? = some (ws[i]?) := by rw [← hC, List.getElem?_map, hk]; rfl
    rw [List.getElem?_map] at h1
    cases hw : wc[k]? with
    | none => rw [hw] at h1; cases h1
    | some q => rw [hw] at h1; exact ⟨k, q, hw, (Option.some.inj h1).symm⟩
  have hEH : EN Z s H := hE.kept (fun a ha hna => hS.2.1 a ha (fun z => hna (hAB a z)))
  have hnd := va_nd_inj is hnd
  · have hDc : va_D A wc := by
      refine ⟨fun i j x y hi hj hxy => ?_, fun k q hq => ?_⟩
      · obtain ⟨a1, b1, b2⟩ := at' i x hi
        obtain ⟨a2, b3, b4⟩ := at' j y hj
        have := hD.1 a1 a2 x y b2 b4 hxy
        subst this
        exact hnd i j a1 b1 b3
      · obtain ⟨a1, b1, b2⟩ := at' k q hq
        exact hD.2 a1 q b2
    intro T hT Xs
    obtain ⟨a, hr⟩ := hr ls H locs h hP hPc hDc hS (fun U hU hW => hEH.warm hW)
    obtain ⟨v, st₀, t, T', L, h0, X', hL, e1, e2, ⟨⟨v1, wc1, hv, hpost, hkeys, hP1⟩, hz, hk⟩, hst⟩ := hr T hT Xs
    cases hv
    rw [h0] at hz hk
    have hlen : is.length = wc1.length := by
      have h1 : is.length = wc.length := by
        have := congrArg List.length hC
        simpa using this
      have h2 : wc1.length = wc.length := by
        have := congrArg List.length hkeys
        simpa using this
      omega
    have hPn : va_P (zD Z) classes (putW ws is wc1) T'.heap := by
      refine putW_P is ws wc1 hlen (fun k q hq hki => ?_) (by rw [e1]; exact hP1)
      have hlt : q.1 < H.size := (hP k q hq).lt
      refine (hP k q hq).kept ?_
      rw [e1]
      refine hk q.1 hlt (fun z => ?_)
      rcases z with ⟨j, e9, hj⟩ | z
      · obtain ⟨i, b1, b2⟩ := at' j (q.1, e9) hj
        have := hD.1 k i q (q.1, e9) hq b2 rfl
        subst this
        exact hki (List.mem_of_getElem? b1)
      · omega
    have hkn : (putW ws is wc1).map (·.1) = ws.map (·.1) := by
      refine putW_keys is ws wc1 ?_
      have h1 : is.map (fun i => (ws.map (·.1))[i]?) = (is.map (fun i => ws[i]?)).map (Option.map (·.1)) := by
        rw [List.map_map]
        apply List.map_congr_left
        intro i _
        rw [List.getElem?_map]
        rfl
      rw [h1, hC, List.map_map]
      have h2 : wc1.map (fun q => some q.1) = (wc1.map (·.1)).map some := by rw [List.map_map]; rfl
      rw [h2, hkeys, List.map_map]
      rfl
    obtain ⟨t2, a1, b1⟩ := kk v wc1 hpost ls T'.heap (locs ++ L) h hPn (va_D_keys hkn hD)
      ⟨Nat.le_trans hS.1 (by rw [e1]; exact hz), fun q h1 h2 => by rw [e1, hk q (Nat.lt_of_lt_of_le h1 hS.1) (fun z => h2 (hF q z))]; exact hS.2.1 q h1 h2, fun q hq => by
        rcases List.mem_append.mp hq with h | h
        · exact hS.2.2 q h
        · exact hF _ (hL q h)⟩ T' rfl X'
    exact ⟨t2, hst t2 a1, b1⟩
theorem g_callT {X : XX} {Z : ZZ} {cc : ByteArray} {n : Nat} {own : String} {l0 : Launch} {d : Nat} {ws wc : va_W} {pc : Nat} {lv : List (Nat × Value)} {st st0 : List Value} (hX : Okk X Z cc n own l0 d) {Post : Option Value → va_W → Prop} {y : MethodName} {b : ByteArray} {n1 d1 idx k i : Nat} {ret : Option FieldType} {As : List Value}
    (con : Con l0 Z y b n1 ret d1 (.ref (adK Z i) :: As) wc Post) (mv : MV y b n1 ret k) (hl : Cond.methodLink own idx y ∈ UW) (hk : As.length = k) (hd1 : d1 + 1 ≤ d) (hi : i < 6) (hy : y.cls = "java/lang/String") (hst : st0 = As.reverse ++ .ref (adK Z i) :: st) (hcat : (st.map fun v => v.category).sum ≤ 8) (hd : decode cc pc = .ok (.invokevirtual idx, 3)) (is : List Nat) (hnd : va_nd is = true) (hC : is.map (fun i => ws[i]?) = wc.map some)
    (kk : ∀ (v : Option Value) (wc1 : va_W), Post v wc1 → G X Z (putW ws is wc1) (pc + 3) lv (v.toList ++ st)) : G X Z ws pc lv st0 := by
  refine g_callC2 hX is hnd hC kk ?_
  obtain ⟨p, l, e, R, s, m, args, below, meth, c, kc, ks, Q, nL, A⟩ := X
  obtain ⟨hx, hb, hml, hown, hts, hK, hA, hlk, hE, hAB, hzB, hR, rfl, rfl⟩ := hX
  obtain ⟨m1, m2, m3, m4, m5, m6⟩ := mv
  intro ls H locs h hP hPc hDc hS hEU
  have hrecv := vk_recv (hE.2.2.1.narrow hAB) hi hS
  have hsz := hS.1
  refine ⟨(Value.ref (adK Z i) :: As).toArray, va_runV (As := As) (rest := st) (C := y.cls) (b := adK Z i) ⟨hx, hb, hml, hown, hts⟩ (con H.size) (cwV k hts (fun w hw => ?_) rfl rfl rfl ⟨rfl, m5⟩ ⟨?_, ?_⟩) ⟨PcZ.blind Z _ wc _, by rw [hy]; exact hrecv, fun U hU hW => ⟨rfl, by rw [hU], by rw [hU]; exact hPc, va_K.moved hW.alike hK, hDc.weaken (fun _ q _ h => hAB _ h), by rw [hU]; exact hEU U hU hW, fun q hq => hzB q (Nat.le_trans hsz hq)⟩⟩ rfl hk h.1 hst (lv_room hcat) hd ⟨hR.1, hR.2.1⟩⟩
  · have hw' : w = .methodLink own idx y ∨ w = .instanceMethod y ∨ w = .selects y.cls y y ∨ w = .initialized y.cls ∨ w ∈ (Cond.code y b n1 ret :: UW) := by simpa [wsV] using hw
    rcases hw' with rfl | rfl | rfl | rfl | hw'
    · exact ⟨hl, uw_good _ hl⟩
    · exact ⟨m1, uw_good _ m1⟩
    · exact ⟨m2, uw_good _ m2⟩
    · exact ⟨m3, uw_good _ m3⟩
    · exact uw_goodL _ m4 _ hw'
  · exact Nat.le_trans hd1 hR.2.2.1
  · show 8 + (n1 + 11) + 37 * d1 ≤ R.locals
    have := hR.2.2.2
    omega
