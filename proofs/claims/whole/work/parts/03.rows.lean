/-! rows of the calculus: an instruction each -/
theorem g_iconst {X : XX} {Z : ZZ} {cc : ByteArray} {n : Nat} {own : String} {l0 : Launch} {d : Nat} {ws : va_W} {pc : Nat} {lv : List (Nat × Value)} {st : List Value} (hX : Okk X Z cc n own l0 d) {k : Int} {v : Int32} (hd : decode cc pc = .ok (.iconst k, 1)) (hv : Int32.ofInt k = v) (kk : G X Z ws (pc + 1) lv (.int v :: st)) : G X Z ws pc lv st := by
  obtain ⟨p, l, e, R, s, m, args, below, meth, c, kc, ks, Q, nL, A⟩ := X
  obtain ⟨hx, hb, hml, hown, hts, hK, hA, hlk, hE, hAB, hzB, hR, rfl, rfl⟩ := hX
  intro ls H locs h hP hD hS
  exact lv_iconst hx hb hd hv (kk ls H locs h hP hD hS)
theorem g_bipush {X : XX} {Z : ZZ} {cc : ByteArray} {n : Nat} {own : String} {l0 : Launch} {d : Nat} {ws : va_W} {pc : Nat} {lv : List (Nat × Value)} {st : List Value} (hX : Okk X Z cc n own l0 d) {k : Int} {v : Int32} (hd : decode cc pc = .ok (.bipush k, 2)) (hv : (Int8.ofInt k).toInt32 = v) (kk : G X Z ws (pc + 2) lv (.int v :: st)) : G X Z ws pc lv st := by
  obtain ⟨p, l, e, R, s, m, args, below, meth, c, kc, ks, Q, nL, A⟩ := X
  obtain ⟨hx, hb, hml, hown, hts, hK, hA, hlk, hE, hAB, hzB, hR, rfl, rfl⟩ := hX
  intro ls H locs h hP hD hS
  exact lv_bipush hx hb hd hv (kk ls H locs h hP hD hS)
theorem g_sipush {X : XX} {Z : ZZ} {cc : ByteArray} {n : Nat} {own : String} {l0 : Launch} {d : Nat} {ws : va_W} {pc : Nat} {lv : List (Nat × Value)} {st : List Value} (hX : Okk X Z cc n own l0 d) {k : Int} {v : Int32} (hd : decode cc pc = .ok (.sipush k, 3)) (hv : (Int16.ofInt k).toInt32 = v) (kk : G X Z ws (pc + 3) lv (.int v :: st)) : G X Z ws pc lv st := by
  obtain ⟨p, l, e, R, s, m, args, below, meth, c, kc, ks, Q, nL, A⟩ := X
  obtain ⟨hx, hb, hml, hown, hts, hK, hA, hlk, hE, hAB, hzB, hR, rfl, rfl⟩ := hX
  intro ls H locs h hP hD hS
  exact lv_sipush hx hb hd hv (kk ls H locs h hP hD hS)
theorem g_ldc {X : XX} {Z : ZZ} {cc : ByteArray} {n : Nat} {own : String} {l0 : Launch} {d : Nat} {ws : va_W} {pc : Nat} {lv : List (Nat × Value)} {st : List Value} (hX : Okk X Z cc n own l0 d) {k : Nat} {v : Int32} (hd : decode cc pc = .ok (.ldc k, 2)) (hc : Jvm.Cond.constant own k v ∈ UW) (kk : G X Z ws (pc + 2) lv (.int v :: st)) : G X Z ws pc lv st := by
  obtain ⟨p, l, e, R, s, m, args, below, meth, c, kc, ks, Q, nL, A⟩ := X
  obtain ⟨hx, hb, hml, hown, hts, hK, hA, hlk, hE, hAB, hzB, hR, rfl, rfl⟩ := hX
  intro ls H locs h hP hD hS
  exact lv_ldc hx hb hown (hts _ hc) hd (kk ls H locs h hP hD hS)
theorem g_ldcw {X : XX} {Z : ZZ} {cc : ByteArray} {n : Nat} {own : String} {l0 : Launch} {d : Nat} {ws : va_W} {pc : Nat} {lv : List (Nat × Value)} {st : List Value} (hX : Okk X Z cc n own l0 d) {k : Nat} {v : Int32} (hd : decode cc pc = .ok (.ldc_w k, 3)) (hc : Jvm.Cond.constant own k v ∈ UW) (kk : G X Z ws (pc + 3) lv (.int v :: st)) : G X Z ws pc lv st := by
  obtain ⟨p, l, e, R, s, m, args, below, meth, c, kc, ks, Q, nL, A⟩ := X
  obtain ⟨hx, hb, hml, hown, hts, hK, hA, hlk, hE, hAB, hzB, hR, rfl, rfl⟩ := hX
  intro ls H locs h hP hD hS
  exact lv_ldcw hx hb hown (hts _ hc) hd (kk ls H locs h hP hD hS)
theorem g_iload_n {X : XX} {Z : ZZ} {cc : ByteArray} {n : Nat} {own : String} {l0 : Launch} {d : Nat} {ws : va_W} {pc : Nat} {lv : List (Nat × Value)} {st : List Value} (hX : Okk X Z cc n own l0 d) {k : Fin 4} {x : Int32} (hd : decode cc pc = .ok (.iload_n k, 1)) (j : Nat) (hl : lv[j]? = some (k.val, .int x)) (kk : G X Z ws (pc + 1) lv (.int x :: st)) : G X Z ws pc lv st := by
  obtain ⟨p, l, e, R, s, m, args, below, meth, c, kc, ks, Q, nL, A⟩ := X
  obtain ⟨hx, hb, hml, hown, hts, hK, hA, hlk, hE, hAB, hzB, hR, rfl, rfl⟩ := hX
  intro ls H locs h hP hD hS
  exact lv_iload_n hx hb hd rfl (lv_at h j hl) (kk ls H locs h hP hD hS)
theorem g_iload {X : XX} {Z : ZZ} {cc : ByteArray} {n : Nat} {own : String} {l0 : Launch} {d : Nat} {ws : va_W} {pc : Nat} {lv : List (Nat × Value)} {st : List Value} (hX : Okk X Z cc n own l0 d) {i : Nat} {x : Int32} (hd : decode cc pc = .ok (.iload i, 2)) (j : Nat) (hl : lv[j]? = some (i, .int x)) (kk : G X Z ws (pc + 2) lv (.int x :: st)) : G X Z ws pc lv st := by
  obtain ⟨p, l, e, R, s, m, args, below, meth, c, kc, ks, Q, nL, A⟩ := X
  obtain ⟨hx, hb, hml, hown, hts, hK, hA, hlk, hE, hAB, hzB, hR, rfl, rfl⟩ := hX
  intro ls H locs h hP hD hS
  exact lv_iload hx hb hd (lv_at h j hl) (kk ls H locs h hP hD hS)
theorem g_istore_n {X : XX} {Z : ZZ} {cc : ByteArray} {n : Nat} {own : String} {l0 : Launch} {d : Nat} {ws : va_W} {pc : Nat} {lv : List (Nat × Value)} {st : List Value} (hX : Okk X Z cc n own l0 d) {k : Fin 4} {x : Int32} {lv1 : List (Nat × Value)} (hd : decode cc pc = .ok (.istore_n k, 1)) (hn : k.val < n) (kp : List Nat) (hl : lv_pick ((k.val, .int x) :: lv.filter (fun q => !(q.1 == k.val) && !(q.1 + 1 == k.val && q.2.category == 2))) kp = lv1) (kk : G X Z ws (pc + 1) lv1 st) : G X Z ws pc lv (.int x :: st) := by
  obtain ⟨p, l, e, R, s, m, args, below, meth, c, kc, ks, Q, nL, A⟩ := X
  obtain ⟨hx, hb, hml, hown, hts, hK, hA, hlk, hE, hAB, hzB, hR, rfl, rfl⟩ := hX
  intro ls H locs h hP hD hS
  exact lv_istore_n hx hb hd rfl h hn rfl (fun ls1 h1 => kk ls1 H locs (lv_sub h1 kp hl) hP hD hS)
theorem g_istore {X : XX} {Z : ZZ} {cc : ByteArray} {n : Nat} {own : String} {l0 : Launch} {d : Nat} {ws : va_W} {pc : Nat} {lv : List (Nat × Value)} {st : List Value} (hX : Okk X Z cc n own l0 d) {i : Nat} {x : Int32} {lv1 : List (Nat × Value)} (hd : decode cc pc = .ok (.istore i, 2)) (hn : i < n) (kp : List Nat) (hl : lv_pick ((i, .int x) :: lv.filter (fun q => !(q.1 == i) && !(q.1 + 1 == i && q.2.category == 2))) kp = lv1) (kk : G X Z ws (pc + 2) lv1 st) : G X Z ws pc lv (.int x :: st) := by
  obtain ⟨p, l, e, R, s, m, args, below, meth, c, kc, ks, Q, nL, A⟩ := X
  obtain ⟨hx, hb, hml, hown, hts, hK, hA, hlk, hE, hAB, hzB, hR, rfl, rfl⟩ := hX
  intro ls H locs h hP hD hS
  exact lv_istore hx hb hd h hn rfl (fun ls1 h1 => kk ls1 H locs (lv_sub h1 kp hl) hP hD hS)
theorem g_aload_n {X : XX} {Z : ZZ} {cc : ByteArray} {n : Nat} {own : String} {l0 : Launch} {d : Nat} {ws : va_W} {pc : Nat} {lv : List (Nat × Value)} {st : List Value} (hX : Okk X Z cc n own l0 d) {k : Fin 4} {x : Nat} (hd : decode cc pc = .ok (.aload_n k, 1)) (j : Nat) (hl : lv[j]? = some (k.val, .ref x)) (kk : G X Z ws (pc + 1) lv (.ref x :: st)) : G X Z ws pc lv st := by
  obtain ⟨p, l, e, R, s, m, args, below, meth, c, kc, ks, Q, nL, A⟩ := X
  obtain ⟨hx, hb, hml, hown, hts, hK, hA, hlk, hE, hAB, hzB, hR, rfl, rfl⟩ := hX
  intro ls H locs h hP hD hS
  exact lv_aload_n hx hb hd rfl (lv_at h j hl) (kk ls H locs h hP hD hS)
theorem g_aload {X : XX} {Z : ZZ} {cc : ByteArray} {n : Nat} {own : String} {l0 : Launch} {d : Nat} {ws : va_W} {pc : Nat} {lv : List (Nat × Value)} {st : List Value} (hX : Okk X Z cc n own l0 d) {i : Nat} {x : Nat} (hd : decode cc pc = .ok (.aload i, 2)) (j : Nat) (hl : lv[j]? = some (i, .ref x)) (kk : G X Z ws (pc + 2) lv (.ref x :: st)) : G X Z ws pc lv st := by
  obtain ⟨p, l, e, R, s, m, args, below, meth, c, kc, ks, Q, nL, A⟩ := X
  obtain ⟨hx, hb, hml, hown, hts, hK, hA, hlk, hE, hAB, hzB, hR, rfl, rfl⟩ := hX
  intro ls H locs h hP hD hS
  exact lv_aload hx hb hd (lv_at h j hl) (kk ls H locs h hP hD hS)
theorem g_astore_n {X : XX} {Z : ZZ} {cc : ByteArray} {n : Nat} {own : String} {l0 : Launch} {d : Nat} {ws : va_W} {pc : Nat} {lv : List (Nat × Value)} {st : List Value} (hX : Okk X Z cc n own l0 d) {k : Fin 4} {x : Nat} {lv1 : List (Nat × Value)} (hd : decode cc pc = .ok (.astore_n k, 1)) (hn : k.val < n) (kp : List Nat) (hl : lv_pick ((k.val, .ref x) :: lv.filter (fun q => !(q.1 == k.val) && !(q.1 + 1 == k.val && q.2.category == 2))) kp = lv1) (kk : G X Z ws (pc + 1) lv1 st) : G X Z ws pc lv (.ref x :: st) := by
  obtain ⟨p, l, e, R, s, m, args, below, meth, c, kc, ks, Q, nL, A⟩ := X
  obtain ⟨hx, hb, hml, hown, hts, hK, hA, hlk, hE, hAB, hzB, hR, rfl, rfl⟩ := hX
  intro ls H locs h hP hD hS
  exact lv_astore_n hx hb hd rfl h hn rfl (fun ls1 h1 => kk ls1 H locs (lv_sub h1 kp hl) hP hD hS)
theorem g_astore {X : XX} {Z : ZZ} {cc : ByteArray} {n : Nat} {own : String} {l0 : Launch} {d : Nat} {ws : va_W} {pc : Nat} {lv : List (Nat × Value)} {st : List Value} (hX : Okk X Z cc n own l0 d) {i : Nat} {x : Nat} {lv1 : List (Nat × Value)} (hd : decode cc pc = .ok (.astore i, 2)) (hn : i < n) (kp : List Nat) (hl : lv_pick ((i, .ref x) :: lv.filter (fun q => !(q.1 == i) && !(q.1 + 1 == i && q.2.category == 2))) kp = lv1) (kk : G X Z ws (pc + 2) lv1 st) : G X Z ws pc lv (.ref x :: st) := by
  obtain ⟨p, l, e, R, s, m, args, below, meth, c, kc, ks, Q, nL, A⟩ := X
  obtain ⟨hx, hb, hml, hown, hts, hK, hA, hlk, hE, hAB, hzB, hR, rfl, rfl⟩ := hX
  intro ls H locs h hP hD hS
  exact lv_astore hx hb hd h hn rfl (fun ls1 h1 => kk ls1 H locs (lv_sub h1 kp hl) hP hD hS)
theorem g_iinc {X : XX} {Z : ZZ} {cc : ByteArray} {n : Nat} {own : String} {l0 : Launch} {d : Nat} {ws : va_W} {pc : Nat} {lv : List (Nat × Value)} {st : List Value} (hX : Okk X Z cc n own l0 d) {i : Nat} {k : Int} {x v : Int32} {lv1 : List (Nat × Value)} (hd : decode cc pc = .ok (.iinc i k, 3)) (j : Nat) (hj : lv[j]? = some (i, .int x)) (hv : x + Int32.ofInt k = v) (hn : i < n) (kp : List Nat) (hl : lv_pick ((i, .int v) :: lv.filter (fun q => !(q.1 == i) && !(q.1 + 1 == i && q.2.category == 2))) kp = lv1) (kk : G X Z ws (pc + 3) lv1 st) : G X Z ws pc lv st := by
  obtain ⟨p, l, e, R, s, m, args, below, meth, c, kc, ks, Q, nL, A⟩ := X
  obtain ⟨hx, hb, hml, hown, hts, hK, hA, hlk, hE, hAB, hzB, hR, rfl, rfl⟩ := hX
  intro ls H locs h hP hD hS
  exact lv_iinc hx hb hd h hj hv hn rfl (fun ls1 h1 => kk ls1 H locs (lv_sub h1 kp hl) hP hD hS)
theorem g_iadd {X : XX} {Z : ZZ} {cc : ByteArray} {n : Nat} {own : String} {l0 : Launch} {d : Nat} {ws : va_W} {pc : Nat} {lv : List (Nat × Value)} {st : List Value} (hX : Okk X Z cc n own l0 d) {x y z : Int32} (hd : decode cc pc = .ok (.iadd, 1)) (hz : x + y = z) (kk : G X Z ws (pc + 1) lv (.int z :: st)) : G X Z ws pc lv (.int y :: .int x :: st) := by
  obtain ⟨p, l, e, R, s, m, args, below, meth, c, kc, ks, Q, nL, A⟩ := X
  obtain ⟨hx, hb, hml, hown, hts, hK, hA, hlk, hE, hAB, hzB, hR, rfl, rfl⟩ := hX
  intro ls H locs h hP hD hS
  subst hz
  exact lv_iadd hx hb hd (kk ls H locs h hP hD hS)
theorem g_isub {X : XX} {Z : ZZ} {cc : ByteArray} {n : Nat} {own : String} {l0 : Launch} {d : Nat} {ws : va_W} {pc : Nat} {lv : List (Nat × Value)} {st : List Value} (hX : Okk X Z cc n own l0 d) {x y z : Int32} (hd : decode cc pc = .ok (.isub, 1)) (hz : x - y = z) (kk : G X Z ws (pc + 1) lv (.int z :: st)) : G X Z ws pc lv (.int y :: .int x :: st) := by
  obtain ⟨p, l, e, R, s, m, args, below, meth, c, kc, ks, Q, nL, A⟩ := X
  obtain ⟨hx, hb, hml, hown, hts, hK, hA, hlk, hE, hAB, hzB, hR, rfl, rfl⟩ := hX
  intro ls H locs h hP hD hS
  subst hz
  exact lv_isub hx hb hd (kk ls H locs h hP hD hS)
theorem g_imul {X : XX} {Z : ZZ} {cc : ByteArray} {n : Nat} {own : String} {l0 : Launch} {d : Nat} {ws : va_W} {pc : Nat} {lv : List (Nat × Value)} {st : List Value} (hX : Okk X Z cc n own l0 d) {x y z : Int32} (hd : decode cc pc = .ok (.imul, 1)) (hz : x * y = z) (kk : G X Z ws (pc + 1) lv (.int z :: st)) : G X Z ws pc lv (.int y :: .int x :: st) := by
  obtain ⟨p, l, e, R, s, m, args, below, meth, c, kc, ks, Q, nL, A⟩ := X
  obtain ⟨hx, hb, hml, hown, hts, hK, hA, hlk, hE, hAB, hzB, hR, rfl, rfl⟩ := hX
  intro ls H locs h hP hD hS
  subst hz
  exact lv_imul hx hb hd (kk ls H locs h hP hD hS)
theorem g_iand {X : XX} {Z : ZZ} {cc : ByteArray} {n : Nat} {own : String} {l0 : Launch} {d : Nat} {ws : va_W} {pc : Nat} {lv : List (Nat × Value)} {st : List Value} (hX : Okk X Z cc n own l0 d) {x y z : Int32} (hd : decode cc pc = .ok (.iand, 1)) (hz : x &&& y = z) (kk : G X Z ws (pc + 1) lv (.int z :: st)) : G X Z ws pc lv (.int y :: .int x :: st) := by
  obtain ⟨p, l, e, R, s, m, args, below, meth, c, kc, ks, Q, nL, A⟩ := X
  obtain ⟨hx, hb, hml, hown, hts, hK, hA, hlk, hE, hAB, hzB, hR, rfl, rfl⟩ := hX
  intro ls H locs h hP hD hS
  subst hz
  exact lv_iand hx hb hd (kk ls H locs h hP hD hS)
theorem g_ior {X : XX} {Z : ZZ} {cc : ByteArray} {n : Nat} {own : String} {l0 : Launch} {d : Nat} {ws : va_W} {pc : Nat} {lv : List (Nat × Value)} {st : List Value} (hX : Okk X Z cc n own l0 d) {x y z : Int32} (hd : decode cc pc = .ok (.ior, 1)) (hz : x ||| y = z) (kk : G X Z ws (pc + 1) lv (.int z :: st)) : G X Z ws pc lv (.int y :: .int x :: st) := by
  obtain ⟨p, l, e, R, s, m, args, below, meth, c, kc, ks, Q, nL, A⟩ := X
  obtain ⟨hx, hb, hml, hown, hts, hK, hA, hlk, hE, hAB, hzB, hR, rfl, rfl⟩ := hX
  intro ls H locs h hP hD hS
  subst hz
  exact lv_ior hx hb hd (kk ls H locs h hP hD hS)
theorem g_ixor {X : XX} {Z : ZZ} {cc : ByteArray} {n : Nat} {own : String} {l0 : Launch} {d : Nat} {ws : va_W} {pc : Nat} {lv : List (Nat × Value)} {st : List Value} (hX : Okk X Z cc n own l0 d) {x y z : Int32} (hd : decode cc pc = .ok (.ixor, 1)) (hz : x ^^^ y = z) (kk : G X Z ws (pc + 1) lv (.int z :: st)) : G X Z ws pc lv (.int y :: .int x :: st) := by
  obtain ⟨p, l, e, R, s, m, args, below, meth, c, kc, ks, Q, nL, A⟩ := X
  obtain ⟨hx, hb, hml, hown, hts, hK, hA, hlk, hE, hAB, hzB, hR, rfl, rfl⟩ := hX
  intro ls H locs h hP hD hS
  subst hz
  exact lv_ixor hx hb hd (kk ls H locs h hP hD hS)
theorem g_idiv {X : XX} {Z : ZZ} {cc : ByteArray} {n : Nat} {own : String} {l0 : Launch} {d : Nat} {ws : va_W} {pc : Nat} {lv : List (Nat × Value)} {st : List Value} (hX : Okk X Z cc n own l0 d) {x y z : Int32} (hd : decode cc pc = .ok (.idiv, 1)) (hne : ¬ y = 0) (hz : x / y = z) (kk : G X Z ws (pc + 1) lv (.int z :: st)) : G X Z ws pc lv (.int y :: .int x :: st) := by
  obtain ⟨p, l, e, R, s, m, args, below, meth, c, kc, ks, Q, nL, A⟩ := X
  obtain ⟨hx, hb, hml, hown, hts, hK, hA, hlk, hE, hAB, hzB, hR, rfl, rfl⟩ := hX
  intro ls H locs h hP hD hS
  subst hz
  exact lv_idiv hx hb hd hne (kk ls H locs h hP hD hS)
theorem g_irem {X : XX} {Z : ZZ} {cc : ByteArray} {n : Nat} {own : String} {l0 : Launch} {d : Nat} {ws : va_W} {pc : Nat} {lv : List (Nat × Value)} {st : List Value} (hX : Okk X Z cc n own l0 d) {x y z : Int32} (hd : decode cc pc = .ok (.irem, 1)) (hne : ¬ y = 0) (hz : x - x / y * y = z) (kk : G X Z ws (pc + 1) lv (.int z :: st)) : G X Z ws pc lv (.int y :: .int x :: st) := by
  obtain ⟨p, l, e, R, s, m, args, below, meth, c, kc, ks, Q, nL, A⟩ := X
  obtain ⟨hx, hb, hml, hown, hts, hK, hA, hlk, hE, hAB, hzB, hR, rfl, rfl⟩ := hX
  intro ls H locs h hP hD hS
  subst hz
  exact lv_irem hx hb hd hne (kk ls H locs h hP hD hS)
theorem g_ineg {X : XX} {Z : ZZ} {cc : ByteArray} {n : Nat} {own : String} {l0 : Launch} {d : Nat} {ws : va_W} {pc : Nat} {lv : List (Nat × Value)} {st : List Value} (hX : Okk X Z cc n own l0 d) {x z : Int32} (hd : decode cc pc = .ok (.ineg, 1)) (hz : -x = z) (kk : G X Z ws (pc + 1) lv (.int z :: st)) : G X Z ws pc lv (.int x :: st) := by
  obtain ⟨p, l, e, R, s, m, args, below, meth, c, kc, ks, Q, nL, A⟩ := X
  obtain ⟨hx, hb, hml, hown, hts, hK, hA, hlk, hE, hAB, hzB, hR, rfl, rfl⟩ := hX
  intro ls H locs h hP hD hS
  subst hz
  exact lv_ineg hx hb hd (kk ls H locs h hP hD hS)
theorem g_ishl {X : XX} {Z : ZZ} {cc : ByteArray} {n : Nat} {own : String} {l0 : Launch} {d : Nat} {ws : va_W} {pc : Nat} {lv : List (Nat × Value)} {st : List Value} (hX : Okk X Z cc n own l0 d) {x y z : Int32} (hd : decode cc pc = .ok (.ishl, 1)) (hz : x <<< (y &&& 31) = z) (kk : G X Z ws (pc + 1) lv (.int z :: st)) : G X Z ws pc lv (.int y :: .int x :: st) := by
  obtain ⟨p, l, e, R, s, m, args, below, meth, c, kc, ks, Q, nL, A⟩ := X
  obtain ⟨hx, hb, hml, hown, hts, hK, hA, hlk, hE, hAB, hzB, hR, rfl, rfl⟩ := hX
  intro ls H locs h hP hD hS
  subst hz
  exact lv_ishl hx hb hd (kk ls H locs h hP hD hS)
theorem g_ishr {X : XX} {Z : ZZ} {cc : ByteArray} {n : Nat} {own : String} {l0 : Launch} {d : Nat} {ws : va_W} {pc : Nat} {lv : List (Nat × Value)} {st : List Value} (hX : Okk X Z cc n own l0 d) {x y z : Int32} (hd : decode cc pc = .ok (.ishr, 1)) (hz : x >>> (y &&& 31) = z) (kk : G X Z ws (pc + 1) lv (.int z :: st)) : G X Z ws pc lv (.int y :: .int x :: st) := by
  obtain ⟨p, l, e, R, s, m, args, below, meth, c, kc, ks, Q, nL, A⟩ := X
  obtain ⟨hx, hb, hml, hown, hts, hK, hA, hlk, hE, hAB, hzB, hR, rfl, rfl⟩ := hX
  intro ls H locs h hP hD hS
  subst hz
  exact lv_ishr hx hb hd (kk ls H locs h hP hD hS)
theorem g_iushr {X : XX} {Z : ZZ} {cc : ByteArray} {n : Nat} {own : String} {l0 : Launch} {d : Nat} {ws : va_W} {pc : Nat} {lv : List (Nat × Value)} {st : List Value} (hX : Okk X Z cc n own l0 d) {x y z : Int32} (hd : decode cc pc = .ok (.iushr, 1)) (hz : (x.toUInt32 >>> (y.toUInt32 &&& Int32.toUInt32 31)).toInt32 = z) (kk : G X Z ws (pc + 1) lv (.int z :: st)) : G X Z ws pc lv (.int y :: .int x :: st) := by
  obtain ⟨p, l, e, R, s, m, args, below, meth, c, kc, ks, Q, nL, A⟩ := X
  obtain ⟨hx, hb, hml, hown, hts, hK, hA, hlk, hE, hAB, hzB, hR, rfl, rfl⟩ := hX
  intro ls H locs h hP hD hS
  exact lv_iushr hx hb hd hz (kk ls H locs h hP hD hS)
theorem g_i2c {X : XX} {Z : ZZ} {cc : ByteArray} {n : Nat} {own : String} {l0 : Launch} {d : Nat} {ws : va_W} {pc : Nat} {lv : List (Nat × Value)} {st : List Value} (hX : Okk X Z cc n own l0 d) {x z : Int32} (hd : decode cc pc = .ok (.i2c, 1)) (hz : (x.toUInt32 % 65536).toInt32 = z) (kk : G X Z ws (pc + 1) lv (.int z :: st)) : G X Z ws pc lv (.int x :: st) := by
  obtain ⟨p, l, e, R, s, m, args, below, meth, c, kc, ks, Q, nL, A⟩ := X
  obtain ⟨hx, hb, hml, hown, hts, hK, hA, hlk, hE, hAB, hzB, hR, rfl, rfl⟩ := hX
  intro ls H locs h hP hD hS
  exact lv_i2c hx hb hd hz (kk ls H locs h hP hD hS)
theorem g_i2b {X : XX} {Z : ZZ} {cc : ByteArray} {n : Nat} {own : String} {l0 : Launch} {d : Nat} {ws : va_W} {pc : Nat} {lv : List (Nat × Value)} {st : List Value} (hX : Okk X Z cc n own l0 d) {x z : Int32} (hd : decode cc pc = .ok (.i2b, 1)) (hz : x.toInt8.toInt32 = z) (kk : G X Z ws (pc + 1) lv (.int z :: st)) : G X Z ws pc lv (.int x :: st) := by
  obtain ⟨p, l, e, R, s, m, args, below, meth, c, kc, ks, Q, nL, A⟩ := X
  obtain ⟨hx, hb, hml, hown, hts, hK, hA, hlk, hE, hAB, hzB, hR, rfl, rfl⟩ := hX
  intro ls H locs h hP hD hS
  exact lv_i2b hx hb hd hz (kk ls H locs h hP hD hS)
theorem g_dup {X : XX} {Z : ZZ} {cc : ByteArray} {n : Nat} {own : String} {l0 : Launch} {d : Nat} {ws : va_W} {pc : Nat} {lv : List (Nat × Value)} {st : List Value} (hX : Okk X Z cc n own l0 d) {v : Value} (hd : decode cc pc = .ok (.dup, 1)) (hv : v.category = 1) (kk : G X Z ws (pc + 1) lv (v :: v :: st)) : G X Z ws pc lv (v :: st) := by
  obtain ⟨p, l, e, R, s, m, args, below, meth, c, kc, ks, Q, nL, A⟩ := X
  obtain ⟨hx, hb, hml, hown, hts, hK, hA, hlk, hE, hAB, hzB, hR, rfl, rfl⟩ := hX
  intro ls H locs h hP hD hS
  exact lv_dup hx hb hd hv (kk ls H locs h hP hD hS)
theorem g_pop {X : XX} {Z : ZZ} {cc : ByteArray} {n : Nat} {own : String} {l0 : Launch} {d : Nat} {ws : va_W} {pc : Nat} {lv : List (Nat × Value)} {st : List Value} (hX : Okk X Z cc n own l0 d) {v : Value} (hd : decode cc pc = .ok (.pop, 1)) (hv : v.category = 1) (kk : G X Z ws (pc + 1) lv st) : G X Z ws pc lv (v :: st) := by
  obtain ⟨p, l, e, R, s, m, args, below, meth, c, kc, ks, Q, nL, A⟩ := X
  obtain ⟨hx, hb, hml, hown, hts, hK, hA, hlk, hE, hAB, hzB, hR, rfl, rfl⟩ := hX
  intro ls H locs h hP hD hS
  exact lv_pop hx hb hd hv (kk ls H locs h hP hD hS)
theorem g_dup_x1 {X : XX} {Z : ZZ} {cc : ByteArray} {n : Nat} {own : String} {l0 : Launch} {d : Nat} {ws : va_W} {pc : Nat} {lv : List (Nat × Value)} {st : List Value} (hX : Okk X Z cc n own l0 d) {v w : Value} (hd : decode cc pc = .ok (.dup_x1, 1)) (hv : v.category = 1) (hw : w.category = 1) (kk : G X Z ws (pc + 1) lv (v :: w :: v :: st)) : G X Z ws pc lv (v :: w :: st) := by
  obtain ⟨p, l, e, R, s, m, args, below, meth, c, kc, ks, Q, nL, A⟩ := X
  obtain ⟨hx, hb, hml, hown, hts, hK, hA, hlk, hE, hAB, hzB, hR, rfl, rfl⟩ := hX
  intro ls H locs h hP hD hS
  exact lv_dup_x1 hx hb hd hv hw (kk ls H locs h hP hD hS)
theorem g_dup2 {X : XX} {Z : ZZ} {cc : ByteArray} {n : Nat} {own : String} {l0 : Launch} {d : Nat} {ws : va_W} {pc : Nat} {lv : List (Nat × Value)} {st : List Value} (hX : Okk X Z cc n own l0 d) {v w : Value} (hd : decode cc pc = .ok (.dup2, 1)) (hv : v.category = 1) (hw : w.category = 1) (kk : G X Z ws (pc + 1) lv (v :: w :: v :: w :: st)) : G X Z ws pc lv (v :: w :: st) := by
  obtain ⟨p, l, e, R, s, m, args, below, meth, c, kc, ks, Q, nL, A⟩ := X
  obtain ⟨hx, hb, hml, hown, hts, hK, hA, hlk, hE, hAB, hzB, hR, rfl, rfl⟩ := hX
  intro ls H locs h hP hD hS
  exact lv_dup2_11 hx hb hd hv hw (kk ls H locs h hP hD hS)
theorem g_if_eq {X : XX} {Z : ZZ} {cc : ByteArray} {n : Nat} {own : String} {l0 : Launch} {d : Nat} {ws : va_W} {pc : Nat} {lv : List (Nat × Value)} {st : List Value} (hX : Okk X Z cc n own l0 d) {x : Int32} {off : Int} (tgt : Nat) (hd : decode cc pc = .ok (.ifCond .eq off, 3)) (ht : (pc : Int) + off = (tgt : Int)) (kt : x = 0 → G X Z ws tgt lv st) (kf : ¬ x = 0 → G X Z ws (pc + 3) lv st) : G X Z ws pc lv (.int x :: st) := by
  obtain ⟨p, l, e, R, s, m, args, below, meth, c, kc, ks, Q, nL, A⟩ := X
  obtain ⟨hx, hb, hml, hown, hts, hK, hA, hlk, hE, hAB, hzB, hR, rfl, rfl⟩ := hX
  intro ls H locs h hP hD hS
  exact lv_if_eq hx hb hd ht (fun q => kt q ls H locs h hP hD hS) (fun q => kf q ls H locs h hP hD hS)
theorem g_icmp_eq {X : XX} {Z : ZZ} {cc : ByteArray} {n : Nat} {own : String} {l0 : Launch} {d : Nat} {ws : va_W} {pc : Nat} {lv : List (Nat × Value)} {st : List Value} (hX : Okk X Z cc n own l0 d) {x y : Int32} {off : Int} (tgt : Nat) (hd : decode cc pc = .ok (.if_icmp .eq off, 3)) (ht : (pc : Int) + off = (tgt : Int)) (kt : x = y → G X Z ws tgt lv st) (kf : ¬ x = y → G X Z ws (pc + 3) lv st) : G X Z ws pc lv (.int y :: .int x :: st) := by
  obtain ⟨p, l, e, R, s, m, args, below, meth, c, kc, ks, Q, nL, A⟩ := X
  obtain ⟨hx, hb, hml, hown, hts, hK, hA, hlk, hE, hAB, hzB, hR, rfl, rfl⟩ := hX
  intro ls H locs h hP hD hS
  exact lv_icmp_eq hx hb hd ht (fun q => kt q ls H locs h hP hD hS) (fun q => kf q ls H locs h hP hD hS)
theorem g_if_ne {X : XX} {Z : ZZ} {cc : ByteArray} {n : Nat} {own : String} {l0 : Launch} {d : Nat} {ws : va_W} {pc : Nat} {lv : List (Nat × Value)} {st : List Value} (hX : Okk X Z cc n own l0 d) {x : Int32} {off : Int} (tgt : Nat) (hd : decode cc pc = .ok (.ifCond .ne off, 3)) (ht : (pc : Int) + off = (tgt : Int)) (kt : ¬ x = 0 → G X Z ws tgt lv st) (kf : x = 0 → G X Z ws (pc + 3) lv st) : G X Z ws pc lv (.int x :: st) := by
  obtain ⟨p, l, e, R, s, m, args, below, meth, c, kc, ks, Q, nL, A⟩ := X
  obtain ⟨hx, hb, hml, hown, hts, hK, hA, hlk, hE, hAB, hzB, hR, rfl, rfl⟩ := hX
  intro ls H locs h hP hD hS
  exact lv_if_ne hx hb hd ht (fun q => kt q ls H locs h hP hD hS) (fun q => kf q ls H locs h hP hD hS)
theorem g_icmp_ne {X : XX} {Z : ZZ} {cc : ByteArray} {n : Nat} {own : String} {l0 : Launch} {d : Nat} {ws : va_W} {pc : Nat} {lv : List (Nat × Value)} {st : List Value} (hX : Okk X Z cc n own l0 d) {x y : Int32} {off : Int} (tgt : Nat) (hd : decode cc pc = .ok (.if_icmp .ne off, 3)) (ht : (pc : Int) + off = (tgt : Int)) (kt : ¬ x = y → G X Z ws tgt lv st) (kf : x = y → G X Z ws (pc + 3) lv st) : G X Z ws pc lv (.int y :: .int x :: st) := by
  obtain ⟨p, l, e, R, s, m, args, below, meth, c, kc, ks, Q, nL, A⟩ := X
  obtain ⟨hx, hb, hml, hown, hts, hK, hA, hlk, hE, hAB, hzB, hR, rfl, rfl⟩ := hX
  intro ls H locs h hP hD hS
  exact lv_icmp_ne hx hb hd ht (fun q => kt q ls H locs h hP hD hS) (fun q => kf q ls H locs h hP hD hS)
theorem g_if_lt {X : XX} {Z : ZZ} {cc : ByteArray} {n : Nat} {own : String} {l0 : Launch} {d : Nat} {ws : va_W} {pc : Nat} {lv : List (Nat × Value)} {st : List Value} (hX : Okk X Z cc n own l0 d) {x : Int32} {off : Int} (tgt : Nat) (hd : decode cc pc = .ok (.ifCond .lt off, 3)) (ht : (pc : Int) + off = (tgt : Int)) (kt : x < 0 → G X Z ws tgt lv st) (kf : ¬ x < 0 → G X Z ws (pc + 3) lv st) : G X Z ws pc lv (.int x :: st) := by
  obtain ⟨p, l, e, R, s, m, args, below, meth, c, kc, ks, Q, nL, A⟩ := X
  obtain ⟨hx, hb, hml, hown, hts, hK, hA, hlk, hE, hAB, hzB, hR, rfl, rfl⟩ := hX
  intro ls H locs h hP hD hS
  exact lv_if_lt hx hb hd ht (fun q => kt q ls H locs h hP hD hS) (fun q => kf q ls H locs h hP hD hS)
theorem g_icmp_lt {X : XX} {Z : ZZ} {cc : ByteArray} {n : Nat} {own : String} {l0 : Launch} {d : Nat} {ws : va_W} {pc : Nat} {lv : List (Nat × Value)} {st : List Value} (hX : Okk X Z cc n own l0 d) {x y : Int32} {off : Int} (tgt : Nat) (hd : decode cc pc = .ok (.if_icmp .lt off, 3)) (ht : (pc : Int) + off = (tgt : Int)) (kt : x < y → G X Z ws tgt lv st) (kf : ¬ x < y → G X Z ws (pc + 3) lv st) : G X Z ws pc lv (.int y :: .int x :: st) := by
  obtain ⟨p, l, e, R, s, m, args, below, meth, c, kc, ks, Q, nL, A⟩ := X
  obtain ⟨hx, hb, hml, hown, hts, hK, hA, hlk, hE, hAB, hzB, hR, rfl, rfl⟩ := hX
  intro ls H locs h hP hD hS
  exact lv_icmp_lt hx hb hd ht (fun q => kt q ls H locs h hP hD hS) (fun q => kf q ls H locs h hP hD hS)
theorem g_if_ge {X : XX} {Z : ZZ} {cc : ByteArray} {n : Nat} {own : String} {l0 : Launch} {d : Nat} {ws : va_W} {pc : Nat} {lv : List (Nat × Value)} {st : List Value} (hX : Okk X Z cc n own l0 d) {x : Int32} {off : Int} (tgt : Nat) (hd : decode cc pc = .ok (.ifCond .ge off, 3)) (ht : (pc : Int) + off = (tgt : Int)) (kt : 0 ≤ x → G X Z ws tgt lv st) (kf : ¬ 0 ≤ x → G X Z ws (pc + 3) lv st) : G X Z ws pc lv (.int x :: st) := by
  obtain ⟨p, l, e, R, s, m, args, below, meth, c, kc, ks, Q, nL, A⟩ := X
  obtain ⟨hx, hb, hml, hown, hts, hK, hA, hlk, hE, hAB, hzB, hR, rfl, rfl⟩ := hX
  intro ls H locs h hP hD hS
  exact lv_if_ge hx hb hd ht (fun q => kt q ls H locs h hP hD hS) (fun q => kf q ls H locs h hP hD hS)
theorem g_icmp_ge {X : XX} {Z : ZZ} {cc : ByteArray} {n : Nat} {own : String} {l0 : Launch} {d : Nat} {ws : va_W} {pc : Nat} {lv : List (Nat × Value)} {st : List Value} (hX : Okk X Z cc n own l0 d) {x y : Int32} {off : Int} (tgt : Nat) (hd : decode cc pc = .ok (.if_icmp .ge off, 3)) (ht : (pc : Int) + off = (tgt : Int)) (kt : y ≤ x → G X Z ws tgt lv st) (kf : ¬ y ≤ x → G X Z ws (pc + 3) lv st) : G X Z ws pc lv (.int y :: .int x :: st) := by
  obtain ⟨p, l, e, R, s, m, args, below, meth, c, kc, ks, Q, nL, A⟩ := X
  obtain ⟨hx, hb, hml, hown, hts, hK, hA, hlk, hE, hAB, hzB, hR, rfl, rfl⟩ := hX
  intro ls H locs h hP hD hS
  exact lv_icmp_ge hx hb hd ht (fun q => kt q ls H locs h hP hD hS) (fun q => kf q ls H locs h hP hD hS)
theorem g_if_gt {X : XX} {Z : ZZ} {cc : ByteArray} {n : Nat} {own : String} {l0 : Launch} {d : Nat} {ws : va_W} {pc : Nat} {lv : List (Nat × Value)} {st : List Value} (hX : Okk X Z cc n own l0 d) {x : Int32} {off : Int} (tgt : Nat) (hd : decode cc pc = .ok (.ifCond .gt off, 3)) (ht : (pc : Int) + off = (tgt : Int)) (kt : 0 < x → G X Z ws tgt lv st) (kf : ¬ 0 < x → G X Z ws (pc + 3) lv st) : G X Z ws pc lv (.int x :: st) := by
  obtain ⟨p, l, e, R, s, m, args, below, meth, c, kc, ks, Q, nL, A⟩ := X
  obtain ⟨hx, hb, hml, hown, hts, hK, hA, hlk, hE, hAB, hzB, hR, rfl, rfl⟩ := hX
  intro ls H locs h hP hD hS
  exact lv_if_gt hx hb hd ht (fun q => kt q ls H locs h hP hD hS) (fun q => kf q ls H locs h hP hD hS)
theorem g_icmp_gt {X : XX} {Z : ZZ} {cc : ByteArray} {n : Nat} {own : String} {l0 : Launch} {d : Nat} {ws : va_W} {pc : Nat} {lv : List (Nat × Value)} {st : List Value} (hX : Okk X Z cc n own l0 d) {x y : Int32} {off : Int} (tgt : Nat) (hd : decode cc pc = .ok (.if_icmp .gt off, 3)) (ht : (pc : Int) + off = (tgt : Int)) (kt : y < x → G X Z ws tgt lv st) (kf : ¬ y < x → G X Z ws (pc + 3) lv st) : G X Z ws pc lv (.int y :: .int x :: st) := by
  obtain ⟨p, l, e, R, s, m, args, below, meth, c, kc, ks, Q, nL, A⟩ := X
  obtain ⟨hx, hb, hml, hown, hts, hK, hA, hlk, hE, hAB, hzB, hR, rfl, rfl⟩ := hX
  intro ls H locs h hP hD hS
  exact lv_icmp_gt hx hb hd ht (fun q => kt q ls H locs h hP hD hS) (fun q => kf q ls H locs h hP hD hS)
theorem g_if_le {X : XX} {Z : ZZ} {cc : ByteArray} {n : Nat} {own : String} {l0 : Launch} {d : Nat} {ws : va_W} {pc : Nat} {lv : List (Nat × Value)} {st : List Value} (hX : Okk X Z cc n own l0 d) {x : Int32} {off : Int} (tgt : Nat) (hd : decode cc pc = .ok (.ifCond .le off, 3)) (ht : (pc : Int) + off = (tgt : Int)) (kt : x ≤ 0 → G X Z ws tgt lv st) (kf : ¬ x ≤ 0 → G X Z ws (pc + 3) lv st) : G X Z ws pc lv (.int x :: st) := by
  obtain ⟨p, l, e, R, s, m, args, below, meth, c, kc, ks, Q, nL, A⟩ := X
  obtain ⟨hx, hb, hml, hown, hts, hK, hA, hlk, hE, hAB, hzB, hR, rfl, rfl⟩ := hX
  intro ls H locs h hP hD hS
  exact lv_if_le hx hb hd ht (fun q => kt q ls H locs h hP hD hS) (fun q => kf q ls H locs h hP hD hS)
theorem g_icmp_le {X : XX} {Z : ZZ} {cc : ByteArray} {n : Nat} {own : String} {l0 : Launch} {d : Nat} {ws : va_W} {pc : Nat} {lv : List (Nat × Value)} {st : List Value} (hX : Okk X Z cc n own l0 d) {x y : Int32} {off : Int} (tgt : Nat) (hd : decode cc pc = .ok (.if_icmp .le off, 3)) (ht : (pc : Int) + off = (tgt : Int)) (kt : x ≤ y → G X Z ws tgt lv st) (kf : ¬ x ≤ y → G X Z ws (pc + 3) lv st) : G X Z ws pc lv (.int y :: .int x :: st) := by
  obtain ⟨p, l, e, R, s, m, args, below, meth, c, kc, ks, Q, nL, A⟩ := X
  obtain ⟨hx, hb, hml, hown, hts, hK, hA, hlk, hE, hAB, hzB, hR, rfl, rfl⟩ := hX
  intro ls H locs h hP hD hS
  exact lv_icmp_le hx hb hd ht (fun q => kt q ls H locs h hP hD hS) (fun q => kf q ls H locs h hP hD hS)
theorem g_goto {X : XX} {Z : ZZ} {cc : ByteArray} {n : Nat} {own : String} {l0 : Launch} {d : Nat} {ws : va_W} {pc : Nat} {lv : List (Nat × Value)} {st : List Value} (hX : Okk X Z cc n own l0 d) {off : Int} (tgt : Nat) (hd : decode cc pc = .ok (.goto off, 3)) (ht : (pc : Int) + off = (tgt : Int)) (kk : G X Z ws tgt lv st) : G X Z ws pc lv st := by
  obtain ⟨p, l, e, R, s, m, args, below, meth, c, kc, ks, Q, nL, A⟩ := X
  obtain ⟨hx, hb, hml, hown, hts, hK, hA, hlk, hE, hAB, hzB, hR, rfl, rfl⟩ := hX
  intro ls H locs h hP hD hS
  exact lv_goto hx hb hd ht (kk ls H locs h hP hD hS)
theorem g_tabOut {X : XX} {Z : ZZ} {cc : ByteArray} {n : Nat} {own : String} {l0 : Launch} {d : Nat} {ws : va_W} {pc : Nat} {lv : List (Nat × Value)} {st : List Value} (hX : Okk X Z cc n own l0 d) {dflt lo hi : Int} {offs : Array Int} {len : Nat} {x : Int32} (tgt : Nat) (hd : decode cc pc = .ok (.tableswitch dflt lo hi offs, len)) (hq : x.toInt < lo ∨ hi < x.toInt) (ht : (pc : Int) + dflt = (tgt : Int)) (kk : G X Z ws tgt lv st) : G X Z ws pc lv (.int x :: st) := by
  obtain ⟨p, l, e, R, s, m, args, below, meth, c, kc, ks, Q, nL, A⟩ := X
  obtain ⟨hx, hb, hml, hown, hts, hK, hA, hlk, hE, hAB, hzB, hR, rfl, rfl⟩ := hX
  intro ls H locs h hP hD hS
  exact lv_tableOut hx hb hd hq ht (kk ls H locs h hP hD hS)
theorem g_tabIn {X : XX} {Z : ZZ} {cc : ByteArray} {n : Nat} {own : String} {l0 : Launch} {d : Nat} {ws : va_W} {pc : Nat} {lv : List (Nat × Value)} {st : List Value} (hX : Okk X Z cc n own l0 d) {dflt lo hi : Int} {offs : Array Int} {len : Nat} {x : Int32} {off : Int} (tgt : Nat) (hd : decode cc pc = .ok (.tableswitch dflt lo hi offs, len)) (h1 : ¬ x.toInt < lo) (h2 : ¬ hi < x.toInt) (ho : offs[(x.toInt - lo).toNat]? = some off) (ht : (pc : Int) + off = (tgt : Int)) (kk : G X Z ws tgt lv st) : G X Z ws pc lv (.int x :: st) := by
  obtain ⟨p, l, e, R, s, m, args, below, meth, c, kc, ks, Q, nL, A⟩ := X
  obtain ⟨hx, hb, hml, hown, hts, hK, hA, hlk, hE, hAB, hzB, hR, rfl, rfl⟩ := hX
  intro ls H locs h hP hD hS
  exact lv_tableIn hx hb hd h1 h2 ho ht (kk ls H locs h hP hD hS)
theorem g_look {X : XX} {Z : ZZ} {cc : ByteArray} {n : Nat} {own : String} {l0 : Launch} {d : Nat} {ws : va_W} {pc : Nat} {lv : List (Nat × Value)} {st : List Value} (hX : Okk X Z cc n own l0 d) {dflt : Int} {ps : Array (Int × Int)} {len : Nat} {x : Int32} {off : Int} (tgt : Nat) (hd : decode cc pc = .ok (.lookupswitch dflt ps, len)) (hp : (ps.toList.zip (ps.toList.drop 1)).all (fun (a, next) => a.1 < next.1) = true) (ho : Op.lookupswitch.offset ps.toList dflt x.toInt = off) (ht : (pc : Int) + off = (tgt : Int)) (kk : G X Z ws tgt lv st) : G X Z ws pc lv (.int x :: st) := by
  obtain ⟨p, l, e, R, s, m, args, below, meth, c, kc, ks, Q, nL, A⟩ := X
  obtain ⟨hx, hb, hml, hown, hts, hK, hA, hlk, hE, hAB, hzB, hR, rfl, rfl⟩ := hX
  intro ls H locs h hP hD hS
  exact lv_lookup hx hb hd hp ho ht (kk ls H locs h hP hD hS)
theorem g_get {X : XX} {Z : ZZ} {cc : ByteArray} {n : Nat} {own : String} {l0 : Launch} {d : Nat} {ws : va_W} {pc : Nat} {lv : List (Nat × Value)} {st : List Value} (hX : Okk X Z cc n own l0 d) {a : Nat} {C ref : String} {T : u_T} {N ci idx : Nat} {fs : List Value} {v : Value} (q0 : Nat) (he : ws[q0]? = some (a, .inr (ci, fs))) (hc : classes[ci]? = some (C, T, N)) (k : Nat) (hk : k < N) (hu : ∀ w ∈ u_ws C T N, w ∈ UW) (hlink : Cond.fieldLink own idx ref (T k).2.1 (T k).2.2.1 ∈ UW) (hsame : (T k).1 = ref) (hv : fs[k]? = some v) (hd : decode cc pc = .ok (.getfield idx, 3)) (kk : G X Z ws (pc + 3) lv (v :: st)) : G X Z ws pc lv (.ref a :: st) := by
  obtain ⟨p, l, e, R, s, m, args, below, meth, c, kc, ks, Q, nL, A⟩ := X
  obtain ⟨hx, hb, hml, hown, hts, hK, hA, hlk, hE, hAB, hzB, hR, rfl, rfl⟩ := hX
  intro ls H locs h hP hD hS
  subst hsame
  exact va_get (D := zD Z) (cl := classes) hx hb hts hu hown hK hP q0 he hc k hk (hts _ hlink) (fun _ q => q) hv hd (kk ls H locs h hP hD hS)
theorem g_put {X : XX} {Z : ZZ} {cc : ByteArray} {n : Nat} {own : String} {l0 : Launch} {d : Nat} {ws : va_W} {pc : Nat} {lv : List (Nat × Value)} {st : List Value} (hX : Okk X Z cc n own l0 d) {a : Nat} {C ref : String} {T : u_T} {N ci idx : Nat} {fs : List Value} {v : Value} {ty : FieldType} {ws1 : va_W} (q0 : Nat) (he : ws[q0]? = some (a, .inr (ci, fs))) (hc : classes[ci]? = some (C, T, N)) (k : Nat) (hk : k < N) (hu : ∀ w ∈ u_ws C T N, w ∈ UW) (ty0 : Nat → FieldType) (hty : ∀ k, k < N → parseFieldDescriptor (T k).2.2.1 = some (ty0 k)) (hnm : ∀ a, a < N → ∀ b, b < N → a ≠ b → (T a).2.1 ≠ (T b).2.1) (hlink : Cond.fieldLink own idx ref (T k).2.1 (T k).2.2.1 ∈ UW) (hsame : (T k).1 = ref) (hfin : (T k).2.2.2 = false) (hty1 : parseFieldDescriptor (T k).2.2.1 = some ty) (hn : narrow ty v = v) (hfit : fits ty v = true) (hl : k < fs.length) (hd : decode cc pc = .ok (.putfield idx, 3)) (hw : ws.set q0 (a, .inr (ci, fs.set k v)) = ws1) (kk : G X Z ws1 (pc + 3) lv st) : G X Z ws pc lv (v :: .ref a :: st) := by
  obtain ⟨p, l, e, R, s, m, args, below, meth, c, kc, ks, Q, nL, A⟩ := X
  obtain ⟨hx, hb, hml, hown, hts, hK, hA, hlk, hE, hAB, hzB, hR, rfl, rfl⟩ := hX
  intro ls H locs h hP hD hS
  subst hsame hw
  exact va_put (D := zD Z) (cl := classes) hx hb hts hu ty0 hty hnm hown hK hP hD hS q0 he hc k hk (hts _ hlink) (fun _ q => q) hfin hty1 hn hfit hl hd (fun H1 locs1 hP1 hD1 hS1 => kk ls H1 locs1 h hP1 hD1 hS1)
theorem g_ald {X : XX} {Z : ZZ} {cc : ByteArray} {n : Nat} {own : String} {l0 : Launch} {d : Nat} {ws : va_W} {pc : Nat} {lv : List (Nat × Value)} {st : List Value} (hX : Okk X Z cc n own l0 d) {a N : Nat} {f : Nat → Int32} {i : Int32} {v : Int32} (q0 : Nat) (ha : ws[q0]? = some (a, .inl (zI Z, N, .inl f))) (j : Nat) (hj : j < N) (hN : N < 2 ^ 31) (hi : i = nI j) (hv : f j = v) (hd : decode cc pc = .ok (.iaload, 1)) (kk : G X Z ws (pc + 1) lv (.int v :: st)) : G X Z ws pc lv (.int i :: .ref a :: st) := by
  obtain ⟨p, l, e, R, s, m, args, below, meth, c, kc, ks, Q, nL, A⟩ := X
  obtain ⟨hx, hb, hml, hown, hts, hK, hA, hlk, hE, hAB, hzB, hR, rfl, rfl⟩ := hX
  intro ls H locs h hP hD hS
  subst hi hv
  have kk1 := kk ls H locs h hP hD hS
  have e1 := nI_clamp (n := j) (by omega)
  exact va_iald (D := zD Z) (cl := classes) hx hb hK hP q0 0 ha rfl (vp_in_nI hj hN) hd (by rw [e1]; exact kk1)
theorem g_aldR {X : XX} {Z : ZZ} {cc : ByteArray} {n : Nat} {own : String} {l0 : Launch} {d : Nat} {ws : va_W} {pc : Nat} {lv : List (Nat × Value)} {st : List Value} (hX : Okk X Z cc n own l0 d) {a N : Nat} {f : Nat → Int32} {i : Int32} (q0 : Nat) (ha : ws[q0]? = some (a, .inl (zI Z, N, .inl f))) (hi : vp_in i N) (hd : decode cc pc = .ok (.iaload, 1)) (kk : G X Z ws (pc + 1) lv (.int (f i.toNatClampNeg) :: st)) : G X Z ws pc lv (.int i :: .ref a :: st) := by
  obtain ⟨p, l, e, R, s, m, args, below, meth, c, kc, ks, Q, nL, A⟩ := X
  obtain ⟨hx, hb, hml, hown, hts, hK, hA, hlk, hE, hAB, hzB, hR, rfl, rfl⟩ := hX
  intro ls H locs h hP hD hS
  exact va_iald (D := zD Z) (cl := classes) hx hb hK hP q0 0 ha rfl hi hd (kk ls H locs h hP hD hS)
theorem g_ast {X : XX} {Z : ZZ} {cc : ByteArray} {n : Nat} {own : String} {l0 : Launch} {d : Nat} {ws : va_W} {pc : Nat} {lv : List (Nat × Value)} {st : List Value} (hX : Okk X Z cc n own l0 d) {a N : Nat} {f : Nat → Int32} {i x : Int32} {ws1 : va_W} (q0 : Nat) (ha : ws[q0]? = some (a, .inl (zI Z, N, .inl f))) (j : Nat) (hj : j < N) (hN : N < 2 ^ 31) (hi : i = nI j) (hd : decode cc pc = .ok (.iastore, 1)) (hw : ws.set q0 (a, .inl (zI Z, N, .inl (upd f j x))) = ws1) (kk : G X Z ws1 (pc + 1) lv st) : G X Z ws pc lv (.int x :: .int i :: .ref a :: st) := by
  obtain ⟨p, l, e, R, s, m, args, below, meth, c, kc, ks, Q, nL, A⟩ := X
  obtain ⟨hx, hb, hml, hown, hts, hK, hA, hlk, hE, hAB, hzB, hR, rfl, rfl⟩ := hX
  intro ls H locs h hP hD hS
  subst hi hw
  have e1 := nI_clamp (n := j) (by omega)
  refine va_iast (D := zD Z) (cl := classes) hx hb hK hP hD hS q0 0 ha rfl (vp_in_nI hj hN) hd (fun H1 locs1 hP1 hD1 hS1 => ?_)
  rw [e1] at hP1 hD1
  exact kk ls H1 locs1 h hP1 hD1 hS1
theorem g_alen {X : XX} {Z : ZZ} {cc : ByteArray} {n : Nat} {own : String} {l0 : Launch} {d : Nat} {ws : va_W} {pc : Nat} {lv : List (Nat × Value)} {st : List Value} (hX : Okk X Z cc n own l0 d) {a : Nat} {cA : ClassId} {x : vp_A} {ty : FieldType} {v : Int32} (q0 t0 : Nat) (ha : ws[q0]? = some (a, .inl (cA, x))) (ht : (tys Z)[t0]? = some (cA, ty)) (hv : Int32.ofNat x.1 = v) (hd : decode cc pc = .ok (.arraylength, 1)) (kk : G X Z ws (pc + 1) lv (.int v :: st)) : G X Z ws pc lv (.ref a :: st) := by
  obtain ⟨p, l, e, R, s, m, args, below, meth, c, kc, ks, Q, nL, A⟩ := X
  obtain ⟨hx, hb, hml, hown, hts, hK, hA, hlk, hE, hAB, hzB, hR, rfl, rfl⟩ := hX
  intro ls H locs h hP hD hS
  exact va_alen (D := zD Z) (cl := classes) hx hb hK hP q0 t0 ha ht hv hd (kk ls H locs h hP hD hS)
theorem g_mmax {X : XX} {Z : ZZ} {cc : ByteArray} {n : Nat} {own : String} {l0 : Launch} {d : Nat} {ws : va_W} {pc : Nat} {lv : List (Nat × Value)} {st : List Value} (hX : Okk X Z cc n own l0 d) {x y z : Int32} {idx : Nat} (hlink : Cond.methodLink own idx Lib.Math.max.name ∈ UW) (hst : Cond.static Lib.Math.max.name ∈ UW) (hini : Cond.initialized "java/lang/Math" ∈ UW) (hcode : Cond.code Lib.Math.max.name Lib.Math.max.code 2 (some .int) ∈ UW) (hd : decode cc pc = .ok (.invokestatic idx, 3)) (hdep : 1 ≤ d) (hcat : (st.map fun v => v.category).sum + 13 ≤ 37) (hz : (if x < y then y else x) = z) (kk : G X Z ws (pc + 3) lv (.int z :: st)) : G X Z ws pc lv (.int y :: .int x :: st) := by
  obtain ⟨p, l, e, R, s, m, args, below, meth, c, kc, ks, Q, nL, A⟩ := X
  obtain ⟨hx, hb, hml, hown, hts, hK, hA, hlk, hE, hAB, hzB, hR, rfl, rfl⟩ := hX
  intro ls H locs h hP hD hS
  subst hz
  exact va_mmax hx hb (hml.trans h.1.symm) hown (hts _ hlink) (hts _ hst) (hts _ hini) (hts _ hcode) (by omega) (by omega) hR.1 hR.2.1 hd (kk ls H locs h hP hD hS)
theorem g_mmin {X : XX} {Z : ZZ} {cc : ByteArray} {n : Nat} {own : String} {l0 : Launch} {d : Nat} {ws : va_W} {pc : Nat} {lv : List (Nat × Value)} {st : List Value} (hX : Okk X Z cc n own l0 d) {x y z : Int32} {idx : Nat} (hlink : Cond.methodLink own idx Lib.Math.min.name ∈ UW) (hst : Cond.static Lib.Math.min.name ∈ UW) (hini : Cond.initialized "java/lang/Math" ∈ UW) (hcode : Cond.code Lib.Math.min.name Lib.Math.min.code 2 (some .int) ∈ UW) (hd : decode cc pc = .ok (.invokestatic idx, 3)) (hdep : 1 ≤ d) (hcat : (st.map fun v => v.category).sum + 13 ≤ 37) (hz : (if y < x then y else x) = z) (kk : G X Z ws (pc + 3) lv (.int z :: st)) : G X Z ws pc lv (.int y :: .int x :: st) := by
  obtain ⟨p, l, e, R, s, m, args, below, meth, c, kc, ks, Q, nL, A⟩ := X
  obtain ⟨hx, hb, hml, hown, hts, hK, hA, hlk, hE, hAB, hzB, hR, rfl, rfl⟩ := hX
  intro ls H locs h hP hD hS
  subst hz
  exact va_mmin hx hb (hml.trans h.1.symm) hown (hts _ hlink) (hts _ hst) (hts _ hini) (hts _ hcode) (by omega) (by omega) hR.1 hR.2.1 hd (kk ls H locs h hP hD hS)
theorem g_copy {X : XX} {Z : ZZ} {cc : ByteArray} {n : Nat} {own : String} {l0 : Launch} {d : Nat} {ws : va_W} {pc : Nat} {lv : List (Nat × Value)} {st : List Value} (hX : Okk X Z cc n own l0 d) {a a0 n0 n1 : Nat} {f g : Nat → Int32} {sp dp k : Int32} {idx : Nat} {ws1 : va_W} (q0 q1 : Nat) (ha0 : ws[q0]? = some (a0, .inl (zI Z, n0, .inl f))) (ha1 : ws[q1]? = some (a, .inl (zI Z, n1, .inl g))) (hlink : Cond.methodLink own idx arraycopyName ∈ UW) (hnat : Cond.native arraycopyName ∈ UW) (hst : Cond.static arraycopyName ∈ UW) (hini : Cond.initialized "java/lang/System" ∈ UW) (h1 : ¬ sp < 0) (h2 : ¬ dp < 0) (h3 : ¬ k < 0) (h4 : sp.toNatClampNeg + k.toNatClampNeg ≤ n0) (h5 : dp.toNatClampNeg + k.toNatClampNeg ≤ n1) (hdep : 1 ≤ d) (hcat : (st.map fun v => v.category).sum + (nativeFrameWords "java/lang/System" "arraycopy" 5 + 11) ≤ 37) (hd : decode cc pc = .ok (.invokestatic idx, 3)) (hw : ws.set q1 (a, .inl (zI Z, n1, .inl (va_cpy f g sp.toNatClampNeg dp.toNatClampNeg k.toNatClampNeg))) = ws1) (kk : G X Z ws1 (pc + 3) lv st) : G X Z ws pc lv (.int k :: .int dp :: .ref a :: .int sp :: .ref a0 :: st) := by
  obtain ⟨p, l, e, R, s, m, args, below, meth, c, kc, ks, Q, nL, A⟩ := X
  obtain ⟨hx, hb, hml, hown, hts, hK, hA, hlk, hE, hAB, hzB, hR, rfl, rfl⟩ := hX
  intro ls H locs h hP hD hS
  subst hw
  exact va_copyi (D := zD Z) (cl := classes) hx hb (hml.trans h.1.symm) hown (hts _ hlink) (hts _ hnat) (hts _ hst) (hts _ hini) hK hP hD hS q0 q1 0 0 ha0 ha1 rfl rfl rfl h1 h2 h3 h4 h5 (fun _ _ => rfl) (by omega) (by omega) hd (fun H1 locs1 hP1 hD1 hS1 => kk ls H1 locs1 h hP1 hD1 hS1)
theorem g_top {X : XX} {Z : ZZ} {ws : va_W} {pc : Nat} {lv : List (Nat × Value)} {st : List Value} {x y : Int32} (e : x = y) (kk : G X Z ws pc lv (.int y :: st)) : G X Z ws pc lv (.int x :: st) := by rw [e]; exact kk
theorem g_eq {X : XX} {Z : ZZ} {ws ws1 : va_W} {pc : Nat} {lv lv1 : List (Nat × Value)} {st st1 : List Value} (e1 : ws = ws1) (e2 : lv = lv1) (e3 : st = st1) (kk : G X Z ws1 pc lv1 st1) : G X Z ws pc lv st := by rw [e1, e2, e3]; exact kk
/-- another picture of the same cells -/
def Same (Z : ZZ) (ws ws1 : va_W) : Prop := ws1.map (·.1) = ws.map (·.1) ∧ ∀ H : Heap, va_P (zD Z) classes ws H → va_P (zD Z) classes ws1 H
theorem g_same {X : XX} {Z : ZZ} {ws ws1 : va_W} {pc : Nat} {lv : List (Nat × Value)} {st : List Value} (hs : Same Z ws ws1) (kk : G X Z ws1 pc lv st) : G X Z ws pc lv st := by
  obtain ⟨p, l, e, R, s, m, args, below, meth, c, kc, ks, Q, nL, A⟩ := X
  intro ls H locs h hP hD hS
  exact kk ls H locs h (hs.2 H hP) (va_D_keys hs.1 hD) hS
theorem g_lv {X : XX} {Z : ZZ} {ws : va_W} {pc : Nat} {lv lv1 : List (Nat × Value)} {st : List Value} (kp : List Nat) (hl : lv_pick lv kp = lv1) (kk : G X Z ws pc lv1 st) : G X Z ws pc lv st := by
  obtain ⟨p, l, e, R, s, m, args, below, meth, c, kc, ks0, Q, nL, A⟩ := X
  intro ls H locs h hP hD hS
  exact kk ls H locs (lv_sub h kp hl) hP hD hS
theorem g_iret {X : XX} {Z : ZZ} {cc : ByteArray} {n : Nat} {own : String} {l0 : Launch} {d : Nat} {ws : va_W} {pc : Nat} {lv : List (Nat × Value)} {st : List Value} (hX : Okk X Z cc n own l0 d) {ws0 : va_W} {Post : Option Value → va_W → Prop} (hQ : Ret X Z ws0 Post (some .int)) {v : Int32} (hd : decode cc pc = .ok (.ireturn, 1)) (hk : ws.map (·.1) = ws0.map (·.1)) (hp : Post (some (.int v)) ws) : G X Z ws pc lv [.int v] := by
  obtain ⟨p, l, e, R, s, m, args, below, meth, c, kc, ks, Q, nL, A⟩ := X
  obtain ⟨hx, hb, hml, hown, hts, hK, hA, hlk, hE, hAB, hzB, hR, rfl, rfl⟩ := hX
  obtain ⟨rfl, rfl, hr, rfl, rfl⟩ := hQ
  intro ls H locs h hP hD hS
  exact W.iret hx hb hr (fun t ht hW => ⟨⟨_, ws, rfl, hp, hk, by rw [ht]; exact hP⟩, hS.F ht⟩) hS.2.2 hd hlk
theorem g_zret {X : XX} {Z : ZZ} {cc : ByteArray} {n : Nat} {own : String} {l0 : Launch} {d : Nat} {ws : va_W} {pc : Nat} {lv : List (Nat × Value)} {st : List Value} (hX : Okk X Z cc n own l0 d) {ws0 : va_W} {Post : Option Value → va_W → Prop} {ty : FieldType} (hQ : Ret X Z ws0 Post (some ty)) {v : Int32} (hn : narrow ty (.int v) = .int v) (hd : decode cc pc = .ok (.ireturn, 1)) (hk : ws.map (·.1) = ws0.map (·.1)) (hp : Post (some (.int v)) ws) : G X Z ws pc lv [.int v] := by
  obtain ⟨p, l, e, R, s, m, args, below, meth, c, kc, ks, Q, nL, A⟩ := X
  obtain ⟨hx, hb, hml, hown, hts, hK, hA, hlk, hE, hAB, hzB, hR, rfl, rfl⟩ := hX
  obtain ⟨rfl, rfl, hr, rfl, rfl⟩ := hQ
  intro ls H locs h hP hD hS
  exact W.zret hx hb hr hn (fun t ht hW => ⟨⟨_, ws, rfl, hp, hk, by rw [ht]; exact hP⟩, hS.F ht⟩) hS.2.2 hd hlk
theorem g_vret {X : XX} {Z : ZZ} {cc : ByteArray} {n : Nat} {own : String} {l0 : Launch} {d : Nat} {ws : va_W} {pc : Nat} {lv : List (Nat × Value)} {st : List Value} (hX : Okk X Z cc n own l0 d) {ws0 : va_W} {Post : Option Value → va_W → Prop} (hQ : Ret X Z ws0 Post none) (hd : decode cc pc = .ok (.return_, 1)) (hk : ws.map (·.1) = ws0.map (·.1)) (hp : Post none ws) : G X Z ws pc lv [] := by
  obtain ⟨p, l, e, R, s, m, args, below, meth, c, kc, ks, Q, nL, A⟩ := X
  obtain ⟨hx, hb, hml, hown, hts, hK, hA, hlk, hE, hAB, hzB, hR, rfl, rfl⟩ := hX
  obtain ⟨rfl, rfl, hr, rfl, rfl⟩ := hQ
  intro ls H locs h hP hD hS
  exact W.vret hx hb hr (fun t ht hW => ⟨⟨_, ws, rfl, hp, hk, by rw [ht]; exact hP⟩, hS.F ht⟩) hS.2.2 hd hlk
theorem g_callC {X : XX} {Z : ZZ} {cc : ByteArray} {n : Nat} {own : String} {l0 : Launch} {d : Nat} {ws wc : va_W} {pc : Nat} {lv : List (Nat × Value)} {st st0 : List Value} (hX : Okk X Z cc n own l0 d) {Post : Option Value → va_W → Prop} (is : List Nat) (hnd : va_nd is = true) (hC : is.map (fun i => ws[i]?) = wc.map some) (kk : ∀ (v : Option Value) (wc1 : va_W), Post v wc1 → G X Z (putW ws is wc1) (pc + 3) lv (v.toList ++ st))
    (hr : match X with | (p, l, e, R, s, m, args, below, meth, c, kc, ks, Q, nL, A) => ∀ (ls : Array Slot) (H : Heap) (locs : List Loc), lv_has ls nL lv → va_P (zD Z) classes ws H → va_P (zD Z) classes wc H → va_D A wc → s.heap.size ≤ H.size → (∀ U : State, U.heap = H → s.WarmedH U.vm → EN Z U H) → ∃ a : Array Value, va_Run p l e R s m args below meth c H locs kc ks 0 0 (F0 m pc ls st0) st (QcZ Z wc H.size Post a) (va_A wc H.size)) : G X Z ws pc lv st0 := by
  obtain ⟨p, l, e, R, s, m, args, below, meth, c, kc, ks, Q, nL, A⟩ := X
  obtain ⟨hx, hb, hml, hown, hts, hK, hA, hlk, hE, hAB, hzB, hR, rfl, rfl⟩ := hX
  intro ls H locs h hP hD hS
  have hPc : va_P (zD Z) classes wc H := by
    intro k q hq
    have h1 : (is.map (fun i => ws[i]?))[k]? = some (some q) := by rw [hC, List.getElem?_map, hq]; rfl
    rw [List.getElem?_map] at h1
    cases hi : is[k]? with
    | none => rw [hi] at h1; cases h1
    | some i => rw [hi] at h1; exact hP i q (Option.some.inj h1)
  have at' : ∀ (k : Nat) (q : Nat × va_E), wc[k]? = some q → ∃ i : Nat, is[k]? = some i ∧ ws[i]? = some q := by
    intro k q hq
    have h1 : (is.map (fun i => ws[i]?))[k]? = some (some q) := by rw [hC, List.getElem?_map, hq]; rfl
    rw [List.getElem?_map] at h1
    cases hi : is[k]? with
    | none => rw [hi] at h1; cases h1
    | some i => rw [hi] at h1; exact ⟨i, rfl, Option.some.inj h1⟩
  have hF := va_free (wc := wc) hD hS hA is hC
  have hDn : ∀ (i : Nat), i ∈ is → ∃ (k : Nat) (q : Nat × va_E), wc[k]? = some q ∧ ws[i]? = some q := by
    intro i hi
    obtain ⟨k, hk⟩ := List.getElem?_of_mem hi
    have h1 : (wc.map some)[k]? = some (ws[i]?) := by rw [← hC, List.getElem?_map, hk]; rfl
    rw [List.getElem?_map] at h1
    cases hw : wc[k]? with
    | none => rw [hw] at h1; cases h1
    | some q => rw [hw] at h1; exact ⟨k, q, hw, (Option.some.inj h1).symm⟩
  have hEH : EN Z s H := hE.kept (fun a ha hna => hS.2.1 a ha (fun z => hna (hAB a z)))
  have hnd := va_nd_inj is hnd
  · have hDc : va_D A wc := by
      refine ⟨fun i j x y hi hj hxy => ?_, fun k q hq => ?_⟩
      · obtain ⟨a1, b1, b2⟩ := at' i x hi
        obtain ⟨a2, b3, b4⟩ := at' j y hj
        have := hD.1 a1 a2 x y b2 b4 hxy
        subst this
        exact hnd i j a1 b1 b3
      · obtain ⟨a1, b1, b2⟩ := at' k q hq
        exact hD.2 a1 q b2
    intro T hT Xs
    obtain ⟨a, hr⟩ := hr ls H locs h hP hPc hDc hS.1 (fun U hU hW => hEH.warm hW)
    obtain ⟨v, st₀, t, T', L, h0, X', hL, e1, e2, ⟨⟨v1, wc1, hv, hpost, hkeys, hP1⟩, hz, hk⟩, hst⟩ := hr T hT Xs
    cases hv
    rw [h0] at hz hk
    have hlen : is.length = wc1.length := by
      have h1 : is.length = wc.length := by
        have := congrArg List.length hC
        simpa using this
      have h2 : wc1.length = wc.length := by
        have := congrArg List.length hkeys
        simpa using this
      omega
    have hPn : va_P (zD Z) classes (putW ws is wc1) T'.heap := by
      refine putW_P is ws wc1 hlen (fun k q hq hki => ?_) (by rw [e1]; exact hP1)
      have hlt : q.1 < H.size := (hP k q hq).lt
      refine (hP k q hq).kept ?_
      rw [e1]
      refine hk q.1 hlt (fun z => ?_)
      rcases z with ⟨j, e9, hj⟩ | z
      · obtain ⟨i, b1, b2⟩ := at' j (q.1, e9) hj
        have := hD.1 k i q (q.1, e9) hq b2 rfl
        subst this
        exact hki (List.mem_of_getElem? b1)
      · omega
    have hkn : (putW ws is wc1).map (·.1) = ws.map (·.1) := by
      refine putW_keys is ws wc1 ?_
      have h1 : is.map (fun i => (ws.map (·.1))[i]?) = (is.map (fun i => ws[i]?)).map (Option.map (·.1)) := by
        rw [List.map_map]
        apply List.map_congr_left
        intro i _
        rw [List.getElem?_map]
        rfl
      rw [h1, hC, List.map_map]
      have h2 : wc1.map (fun q => some q.1) = (wc1.map (·.1)).map some := by rw [List.map_map]; rfl
      rw [h2, hkeys, List.map_map]
      rfl
    obtain ⟨t2, a1, b1⟩ := kk v wc1 hpost ls T'.heap (locs ++ L) h hPn (va_D_keys hkn hD)
      ⟨Nat.le_trans hS.1 (by rw [e1]; exact hz), fun q h1 h2 => by rw [e1, hk q (Nat.lt_of_lt_of_le h1 hS.1) (fun z => h2 (hF q z))]; exact hS.2.1 q h1 h2, fun q hq => by
        rcases List.mem_append.mp hq with h | h
        · exact hS.2.2 q h
        · exact hF _ (hL q h)⟩ T' rfl X'
    exact ⟨t2, hst t2 a1, b1⟩
