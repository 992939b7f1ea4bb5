/-! a call's cells put back, by where they stand -/
theorem putW_cons (x : Nat × va_E) : ∀ (is : List Nat) (ws new : va_W), putW (x :: ws) (is.map (· + 1)) new = x :: putW ws is new
  | [], ws, new => by cases new <;> rfl
  | i :: is, ws, [] => rfl
  | i :: is, ws, n :: new => by
    show putW ((x :: ws).set (i + 1) n) (is.map (· + 1)) new = x :: putW (ws.set i n) is new
    rw [List.set_cons_succ]
    exact putW_cons x is _ new
theorem putW_pre : ∀ (pre ws : va_W) (is : List Nat) (new : va_W), putW (pre ++ ws) (is.map (· + pre.length)) new = pre ++ putW ws is new
  | [], ws, is, new => by
    have : is.map (· + ([] : va_W).length) = is := by simp
    rw [this]
    rfl
  | x :: pre, ws, is, new => by
    have h : is.map (· + (x :: pre).length) = (is.map (· + pre.length)).map (· + 1) := by
      rw [List.map_map]
      rfl
    rw [h, List.cons_append, putW_cons, putW_pre pre ws is new]
    rfl
theorem putW_mid : ∀ (mid new post : va_W), new.length = mid.length → putW (mid ++ post) (List.range mid.length) new = new ++ post
  | [], [], post, _ => rfl
  | [], _ :: _, _, h => by simp at h
  | m :: mid, [], _, h => by simp at h
  | m :: mid, n :: new, post, h => by
    rw [List.length_cons, List.range_succ_eq_map, List.cons_append]
    show putW ((m :: (mid ++ post)).set 0 n) ((List.range mid.length).map Nat.succ) new = _
    rw [List.set_cons_zero]
    show putW (n :: (mid ++ post)) ((List.range mid.length).map (· + 1)) new = _
    rw [putW_cons, putW_mid mid new post (by simpa using h)]
    rfl
theorem putW_at (pre mid new post : va_W) (is : List Nat) (h : new.length = mid.length) (hi : is = (List.range mid.length).map (· + pre.length)) : putW (pre ++ (mid ++ post)) is new = pre ++ (new ++ post) := by
  rw [hi, putW_pre, putW_mid mid new post h]
theorem putW_two : ∀ (i1 i2 : List Nat) (ws w1 w2 : va_W), i1.length = w1.length → putW ws (i1 ++ i2) (w1 ++ w2) = putW (putW ws i1 w1) i2 w2
  | [], i2, ws, [], w2, _ => rfl
  | [], _, _, _ :: _, _, h => by simp at h
  | i :: i1, _, _, [], _, h => by simp at h
  | i :: i1, i2, ws, x :: w1, w2, h => by
    show putW (ws.set i x) (i1 ++ i2) (w1 ++ w2) = putW (putW (ws.set i x) i1 w1) i2 w2
    exact putW_two i1 i2 _ w1 w2 (by simpa using h)
theorem sub_mid : ∀ (mid post : va_W), (List.range mid.length).map (fun i => (mid ++ post)[i]?) = mid.map some
  | [], _ => rfl
  | m :: mid, post => by
    rw [List.length_cons, List.range_succ_eq_map, List.map_cons, List.map_map]
    have ih := sub_mid mid post
    show some m :: (List.range mid.length).map (fun i => (m :: (mid ++ post))[i + 1]?) = some m :: mid.map some
    rw [← ih]
    rfl
theorem sub_at (pre mid post : va_W) (is : List Nat) (hi : is = (List.range mid.length).map (· + pre.length)) : is.map (fun i => (pre ++ (mid ++ post))[i]?) = mid.map some := by
  rw [hi, List.map_map, ← sub_mid mid post]
  apply List.map_congr_left
  intro i _
  show (pre ++ (mid ++ post))[i + pre.length]? = _
  rw [List.getElem?_append_right (by omega), Nat.add_sub_cancel]
theorem sub_two (i1 i2 : List Nat) (ws w1 w2 : va_W) (h1 : i1.map (fun i => ws[i]?) = w1.map some) (h2 : i2.map (fun i => ws[i]?) = w2.map some) : (i1 ++ i2).map (fun i => ws[i]?) = (w1 ++ w2).map some := by
  rw [List.map_append, List.map_append, h1, h2]
theorem putB_all (Z : ZZ) (h : Nat) (q : Nat → Nat) (S : St) (S' : St) : putW (wB Z h q S) [0, 1, 2, 3, 4, 5, 6, 7, 8, 9, 10, 11, 12] (wB Z h q S') = wB Z h q S' := by
  have := putW_mid (wB Z h q S) (wB Z h q S') [] rfl
  rwa [List.append_nil, List.append_nil] at this
theorem subB_all (Z : ZZ) (h : Nat) (q : Nat → Nat) (S : St) : [0, 1, 2, 3, 4, 5, 6, 7, 8, 9, 10, 11, 12].map (fun i => (wB Z h q S)[i]?) = (wB Z h q S).map some := by
  have := sub_mid (wB Z h q S) []
  rwa [List.append_nil] at this
theorem putT_all (Z : ZZ) (h : Nat) (q : Nat → Nat) (S : St) (S' : St) : putW (wT Z h q S) [0, 1] (wT Z h q S') = wT Z h q S' := by
  have := putW_mid (wT Z h q S) (wT Z h q S') [] rfl
  rwa [List.append_nil, List.append_nil] at this
theorem subT_all (Z : ZZ) (h : Nat) (q : Nat → Nat) (S : St) : [0, 1].map (fun i => (wT Z h q S)[i]?) = (wT Z h q S).map some := by
  have := sub_mid (wT Z h q S) []
  rwa [List.append_nil] at this
theorem putW_all (Z : ZZ) (h : Nat) (q : Nat → Nat) (S : St) (S' : St) : putW (wW Z h q S) [0, 1, 2, 3, 4, 5, 6, 7, 8, 9] (wW Z h q S') = wW Z h q S' := by
  have := putW_mid (wW Z h q S) (wW Z h q S') [] rfl
  rwa [List.append_nil, List.append_nil] at this
theorem subW_all (Z : ZZ) (h : Nat) (q : Nat → Nat) (S : St) : [0, 1, 2, 3, 4, 5, 6, 7, 8, 9].map (fun i => (wW Z h q S)[i]?) = (wW Z h q S).map some := by
  have := sub_mid (wW Z h q S) []
  rwa [List.append_nil] at this
theorem putM_all (Z : ZZ) (h : Nat) (q : Nat → Nat) (S : St) (S' : St) : putW (wM Z h q S) [0, 1, 2, 3, 4, 5, 6, 7, 8, 9, 10, 11, 12, 13, 14, 15, 16, 17, 18, 19, 20, 21] (wM Z h q S') = wM Z h q S' := by
  have := putW_mid (wM Z h q S) (wM Z h q S') [] rfl
  rwa [List.append_nil, List.append_nil] at this
theorem subM_all (Z : ZZ) (h : Nat) (q : Nat → Nat) (S : St) : [0, 1, 2, 3, 4, 5, 6, 7, 8, 9, 10, 11, 12, 13, 14, 15, 16, 17, 18, 19, 20, 21].map (fun i => (wM Z h q S)[i]?) = (wM Z h q S).map some := by
  have := sub_mid (wM Z h q S) []
  rwa [List.append_nil] at this
theorem putWB_0 (Z : ZZ) (h : Nat) (q : Nat → Nat) (S : St) (h2 : Nat) (q2 : Nat → Nat) (S2 : St) (S' : St) : putW ((wW Z h q S ++ wB Z h2 q2 S2)) [0, 1, 2, 3, 4, 5, 6, 7, 8, 9] (wW Z h q S') = wW Z h q S' ++ wB Z h2 q2 S2 := putW_mid (wW Z h q S) (wW Z h q S') (wB Z h2 q2 S2) rfl
theorem subWB_0 (Z : ZZ) (h : Nat) (q : Nat → Nat) (S : St) (h2 : Nat) (q2 : Nat → Nat) (S2 : St) : [0, 1, 2, 3, 4, 5, 6, 7, 8, 9].map (fun i => ((wW Z h q S ++ wB Z h2 q2 S2))[i]?) = (wW Z h q S).map some := sub_mid (wW Z h q S) (wB Z h2 q2 S2)
theorem putX_all (Z : ZZ) (a : Nat → Nat → Nat) (Sn Sm Sk T L U : St) (Sn' Sm' Sk' T' L' U' : St) : putW (wX Z a Sn Sm Sk T L U) [0, 1, 2, 3, 4, 5, 6, 7, 8, 9, 10, 11, 12, 13, 14, 15, 16, 17, 18, 19, 20, 21, 22, 23, 24, 25, 26, 27, 28, 29, 30, 31, 32, 33, 34, 35, 36, 37, 38, 39, 40, 41, 42, 43, 44, 45, 46, 47, 48, 49, 50, 51, 52, 53] (wX Z a Sn' Sm' Sk' T' L' U') = wX Z a Sn' Sm' Sk' T' L' U' := by
  have := putW_mid (wX Z a Sn Sm Sk T L U) (wX Z a Sn' Sm' Sk' T' L' U') [] rfl
  rwa [List.append_nil, List.append_nil] at this
theorem subX_all (Z : ZZ) (a : Nat → Nat → Nat) (Sn Sm Sk T L U : St) : [0, 1, 2, 3, 4, 5, 6, 7, 8, 9, 10, 11, 12, 13, 14, 15, 16, 17, 18, 19, 20, 21, 22, 23, 24, 25, 26, 27, 28, 29, 30, 31, 32, 33, 34, 35, 36, 37, 38, 39, 40, 41, 42, 43, 44, 45, 46, 47, 48, 49, 50, 51, 52, 53].map (fun i => (wX Z a Sn Sm Sk T L U)[i]?) = (wX Z a Sn Sm Sk T L U).map some := by
  have := sub_mid (wX Z a Sn Sm Sk T L U) []
  rwa [List.append_nil] at this
theorem putX_1 (Z : ZZ) (a : Nat → Nat → Nat) (Sn Sm Sk T L U : St) (S' : St) : putW (wX Z a Sn Sm Sk T L U) [3, 4, 5, 6, 7, 8, 9, 10, 11, 12, 13, 14, 15] (wB Z (a 1 0) (fun k => a 1 (k + 1)) S') = wX Z a S' Sm Sk T L U := by
  have := putW_at ([(a 0 0, .inr (3, [.ref (a 1 0), .ref (a 2 0), .ref (a 3 0), .int (U 0 0), .ref (a 4 0), .ref (a 5 0), .ref (a 0 1), .int (U 0 1), .ref (a 0 2)])), (a 0 1, .inl (zI Z, 12, .inl (U 1))), (a 0 2, .inl (zI Z, 7, .inl (U 2)))] : va_W) (wB Z (a 1 0) (fun k => a 1 (k + 1)) Sn) (wB Z (a 1 0) (fun k => a 1 (k + 1)) S') ((wB Z (a 2 0) (fun k => a 2 (k + 1)) Sm) ++ ((wB Z (a 3 0) (fun k => a 3 (k + 1)) Sk) ++ ((wT Z (a 4 0) (fun k => a 4 (k + 1)) T) ++ (wW Z (a 5 0) (fun k => a 5 (k + 1)) L)))) [3, 4, 5, 6, 7, 8, 9, 10, 11, 12, 13, 14, 15] rfl rfl
  exact this
theorem subX_1 (Z : ZZ) (a : Nat → Nat → Nat) (Sn Sm Sk T L U : St) : [3, 4, 5, 6, 7, 8, 9, 10, 11, 12, 13, 14, 15].map (fun i => (wX Z a Sn Sm Sk T L U)[i]?) = (wB Z (a 1 0) (fun k => a 1 (k + 1)) Sn).map some := by
  have := sub_at ([(a 0 0, .inr (3, [.ref (a 1 0), .ref (a 2 0), .ref (a 3 0), .int (U 0 0), .ref (a 4 0), .ref (a 5 0), .ref (a 0 1), .int (U 0 1), .ref (a 0 2)])), (a 0 1, .inl (zI Z, 12, .inl (U 1))), (a 0 2, .inl (zI Z, 7, .inl (U 2)))] : va_W) (wB Z (a 1 0) (fun k => a 1 (k + 1)) Sn) ((wB Z (a 2 0) (fun k => a 2 (k + 1)) Sm) ++ ((wB Z (a 3 0) (fun k => a 3 (k + 1)) Sk) ++ ((wT Z (a 4 0) (fun k => a 4 (k + 1)) T) ++ (wW Z (a 5 0) (fun k => a 5 (k + 1)) L)))) [3, 4, 5, 6, 7, 8, 9, 10, 11, 12, 13, 14, 15] rfl
  exact this
theorem putX_2 (Z : ZZ) (a : Nat → Nat → Nat) (Sn Sm Sk T L U : St) (S' : St) : putW (wX Z a Sn Sm Sk T L U) [16, 17, 18, 19, 20, 21, 22, 23, 24, 25, 26, 27, 28] (wB Z (a 2 0) (fun k => a 2 (k + 1)) S') = wX Z a Sn S' Sk T L U := by
  have := putW_at (([(a 0 0, .inr (3, [.ref (a 1 0), .ref (a 2 0), .ref (a 3 0), .int (U 0 0), .ref (a 4 0), .ref (a 5 0), .ref (a 0 1), .int (U 0 1), .ref (a 0 2)])), (a 0 1, .inl (zI Z, 12, .inl (U 1))), (a 0 2, .inl (zI Z, 7, .inl (U 2)))] : va_W) ++ (wB Z (a 1 0) (fun k => a 1 (k + 1)) Sn)) (wB Z (a 2 0) (fun k => a 2 (k + 1)) Sm) (wB Z (a 2 0) (fun k => a 2 (k + 1)) S') ((wB Z (a 3 0) (fun k => a 3 (k + 1)) Sk) ++ ((wT Z (a 4 0) (fun k => a 4 (k + 1)) T) ++ (wW Z (a 5 0) (fun k => a 5 (k + 1)) L))) [16, 17, 18, 19, 20, 21, 22, 23, 24, 25, 26, 27, 28] rfl rfl
  simp only [List.append_assoc] at this
  exact this
theorem subX_2 (Z : ZZ) (a : Nat → Nat → Nat) (Sn Sm Sk T L U : St) : [16, 17, 18, 19, 20, 21, 22, 23, 24, 25, 26, 27, 28].map (fun i => (wX Z a Sn Sm Sk T L U)[i]?) = (wB Z (a 2 0) (fun k => a 2 (k + 1)) Sm).map some := by
  have := sub_at (([(a 0 0, .inr (3, [.ref (a 1 0), .ref (a 2 0), .ref (a 3 0), .int (U 0 0), .ref (a 4 0), .ref (a 5 0), .ref (a 0 1), .int (U 0 1), .ref (a 0 2)])), (a 0 1, .inl (zI Z, 12, .inl (U 1))), (a 0 2, .inl (zI Z, 7, .inl (U 2)))] : va_W) ++ (wB Z (a 1 0) (fun k => a 1 (k + 1)) Sn)) (wB Z (a 2 0) (fun k => a 2 (k + 1)) Sm) ((wB Z (a 3 0) (fun k => a 3 (k + 1)) Sk) ++ ((wT Z (a 4 0) (fun k => a 4 (k + 1)) T) ++ (wW Z (a 5 0) (fun k => a 5 (k + 1)) L))) [16, 17, 18, 19, 20, 21, 22, 23, 24, 25, 26, 27, 28] rfl
  simp only [List.append_assoc] at this
  exact this
theorem putX_3 (Z : ZZ) (a : Nat → Nat → Nat) (Sn Sm Sk T L U : St) (S' : St) : putW (wX Z a Sn Sm Sk T L U) [29, 30, 31, 32, 33, 34, 35, 36, 37, 38, 39, 40, 41] (wB Z (a 3 0) (fun k => a 3 (k + 1)) S') = wX Z a Sn Sm S' T L U := by
  have := putW_at (([(a 0 0, .inr (3, [.ref (a 1 0), .ref (a 2 0), .ref (a 3 0), .int (U 0 0), .ref (a 4 0), .ref (a 5 0), .ref (a 0 1), .int (U 0 1), .ref (a 0 2)])), (a 0 1, .inl (zI Z, 12, .inl (U 1))), (a 0 2, .inl (zI Z, 7, .inl (U 2)))] : va_W) ++ ((wB Z (a 1 0) (fun k => a 1 (k + 1)) Sn) ++ (wB Z (a 2 0) (fun k => a 2 (k + 1)) Sm))) (wB Z (a 3 0) (fun k => a 3 (k + 1)) Sk) (wB Z (a 3 0) (fun k => a 3 (k + 1)) S') ((wT Z (a 4 0) (fun k => a 4 (k + 1)) T) ++ (wW Z (a 5 0) (fun k => a 5 (k + 1)) L)) [29, 30, 31, 32, 33, 34, 35, 36, 37, 38, 39, 40, 41] rfl rfl
  simp only [List.append_assoc] at this
  exact this
theorem subX_3 (Z : ZZ) (a : Nat → Nat → Nat) (Sn Sm Sk T L U : St) : [29, 30, 31, 32, 33, 34, 35, 36, 37, 38, 39, 40, 41].map (fun i => (wX Z a Sn Sm Sk T L U)[i]?) = (wB Z (a 3 0) (fun k => a 3 (k + 1)) Sk).map some := by
  have := sub_at (([(a 0 0, .inr (3, [.ref (a 1 0), .ref (a 2 0), .ref (a 3 0), .int (U 0 0), .ref (a 4 0), .ref (a 5 0), .ref (a 0 1), .int (U 0 1), .ref (a 0 2)])), (a 0 1, .inl (zI Z, 12, .inl (U 1))), (a 0 2, .inl (zI Z, 7, .inl (U 2)))] : va_W) ++ ((wB Z (a 1 0) (fun k => a 1 (k + 1)) Sn) ++ (wB Z (a 2 0) (fun k => a 2 (k + 1)) Sm))) (wB Z (a 3 0) (fun k => a 3 (k + 1)) Sk) ((wT Z (a 4 0) (fun k => a 4 (k + 1)) T) ++ (wW Z (a 5 0) (fun k => a 5 (k + 1)) L)) [29, 30, 31, 32, 33, 34, 35, 36, 37, 38, 39, 40, 41] rfl
  simp only [List.append_assoc] at this
  exact this
theorem putX_4 (Z : ZZ) (a : Nat → Nat → Nat) (Sn Sm Sk T L U : St) (S' : St) : putW (wX Z a Sn Sm Sk T L U) [42, 43] (wT Z (a 4 0) (fun k => a 4 (k + 1)) S') = wX Z a Sn Sm Sk S' L U := by
  have := putW_at (([(a 0 0, .inr (3, [.ref (a 1 0), .ref (a 2 0), .ref (a 3 0), .int (U 0 0), .ref (a 4 0), .ref (a 5 0), .ref (a 0 1), .int (U 0 1), .ref (a 0 2)])), (a 0 1, .inl (zI Z, 12, .inl (U 1))), (a 0 2, .inl (zI Z, 7, .inl (U 2)))] : va_W) ++ ((wB Z (a 1 0) (fun k => a 1 (k + 1)) Sn) ++ ((wB Z (a 2 0) (fun k => a 2 (k + 1)) Sm) ++ (wB Z (a 3 0) (fun k => a 3 (k + 1)) Sk)))) (wT Z (a 4 0) (fun k => a 4 (k + 1)) T) (wT Z (a 4 0) (fun k => a 4 (k + 1)) S') (wW Z (a 5 0) (fun k => a 5 (k + 1)) L) [42, 43] rfl rfl
  simp only [List.append_assoc] at this
  exact this
theorem subX_4 (Z : ZZ) (a : Nat → Nat → Nat) (Sn Sm Sk T L U : St) : [42, 43].map (fun i => (wX Z a Sn Sm Sk T L U)[i]?) = (wT Z (a 4 0) (fun k => a 4 (k + 1)) T).map some := by
  have := sub_at (([(a 0 0, .inr (3, [.ref (a 1 0), .ref (a 2 0), .ref (a 3 0), .int (U 0 0), .ref (a 4 0), .ref (a 5 0), .ref (a 0 1), .int (U 0 1), .ref (a 0 2)])), (a 0 1, .inl (zI Z, 12, .inl (U 1))), (a 0 2, .inl (zI Z, 7, .inl (U 2)))] : va_W) ++ ((wB Z (a 1 0) (fun k => a 1 (k + 1)) Sn) ++ ((wB Z (a 2 0) (fun k => a 2 (k + 1)) Sm) ++ (wB Z (a 3 0) (fun k => a 3 (k + 1)) Sk)))) (wT Z (a 4 0) (fun k => a 4 (k + 1)) T) (wW Z (a 5 0) (fun k => a 5 (k + 1)) L) [42, 43] rfl
  simp only [List.append_assoc] at this
  exact this
theorem putX_5 (Z : ZZ) (a : Nat → Nat → Nat) (Sn Sm Sk T L U : St) (S' : St) : putW (wX Z a Sn Sm Sk T L U) [44, 45, 46, 47, 48, 49, 50, 51, 52, 53] (wW Z (a 5 0) (fun k => a 5 (k + 1)) S') = wX Z a Sn Sm Sk T S' U := by
  have := putW_at (([(a 0 0, .inr (3, [.ref (a 1 0), .ref (a 2 0), .ref (a 3 0), .int (U 0 0), .ref (a 4 0), .ref (a 5 0), .ref (a 0 1), .int (U 0 1), .ref (a 0 2)])), (a 0 1, .inl (zI Z, 12, .inl (U 1))), (a 0 2, .inl (zI Z, 7, .inl (U 2)))] : va_W) ++ ((wB Z (a 1 0) (fun k => a 1 (k + 1)) Sn) ++ ((wB Z (a 2 0) (fun k => a 2 (k + 1)) Sm) ++ ((wB Z (a 3 0) (fun k => a 3 (k + 1)) Sk) ++ (wT Z (a 4 0) (fun k => a 4 (k + 1)) T))))) (wW Z (a 5 0) (fun k => a 5 (k + 1)) L) (wW Z (a 5 0) (fun k => a 5 (k + 1)) S') ([] : va_W) [44, 45, 46, 47, 48, 49, 50, 51, 52, 53] rfl rfl
  simp only [List.append_assoc, List.append_nil] at this
  exact this
theorem subX_5 (Z : ZZ) (a : Nat → Nat → Nat) (Sn Sm Sk T L U : St) : [44, 45, 46, 47, 48, 49, 50, 51, 52, 53].map (fun i => (wX Z a Sn Sm Sk T L U)[i]?) = (wW Z (a 5 0) (fun k => a 5 (k + 1)) L).map some := by
  have := sub_at (([(a 0 0, .inr (3, [.ref (a 1 0), .ref (a 2 0), .ref (a 3 0), .int (U 0 0), .ref (a 4 0), .ref (a 5 0), .ref (a 0 1), .int (U 0 1), .ref (a 0 2)])), (a 0 1, .inl (zI Z, 12, .inl (U 1))), (a 0 2, .inl (zI Z, 7, .inl (U 2)))] : va_W) ++ ((wB Z (a 1 0) (fun k => a 1 (k + 1)) Sn) ++ ((wB Z (a 2 0) (fun k => a 2 (k + 1)) Sm) ++ ((wB Z (a 3 0) (fun k => a 3 (k + 1)) Sk) ++ (wT Z (a 4 0) (fun k => a 4 (k + 1)) T))))) (wW Z (a 5 0) (fun k => a 5 (k + 1)) L) ([] : va_W) [44, 45, 46, 47, 48, 49, 50, 51, 52, 53] rfl
  simp only [List.append_assoc, List.append_nil] at this
  exact this
theorem putX_2_1 (Z : ZZ) (a : Nat → Nat → Nat) (Sn Sm Sk T L U : St) (S1' S2' : St) : putW (wX Z a Sn Sm Sk T L U) [16, 17, 18, 19, 20, 21, 22, 23, 24, 25, 26, 27, 28, 3, 4, 5, 6, 7, 8, 9, 10, 11, 12, 13, 14, 15] (wB Z (a 2 0) (fun k => a 2 (k + 1)) S1' ++ wB Z (a 1 0) (fun k => a 1 (k + 1)) S2') = wX Z a S2' S1' Sk T L U := by
  rw [show ([16, 17, 18, 19, 20, 21, 22, 23, 24, 25, 26, 27, 28, 3, 4, 5, 6, 7, 8, 9, 10, 11, 12, 13, 14, 15] : List Nat) = [16, 17, 18, 19, 20, 21, 22, 23, 24, 25, 26, 27, 28] ++ [3, 4, 5, 6, 7, 8, 9, 10, 11, 12, 13, 14, 15] from rfl, putW_two _ _ _ _ _ rfl, putX_2, putX_1 Z a Sn S1' Sk T L U]
theorem subX_2_1 (Z : ZZ) (a : Nat → Nat → Nat) (Sn Sm Sk T L U : St) : [16, 17, 18, 19, 20, 21, 22, 23, 24, 25, 26, 27, 28, 3, 4, 5, 6, 7, 8, 9, 10, 11, 12, 13, 14, 15].map (fun i => (wX Z a Sn Sm Sk T L U)[i]?) = (wB Z (a 2 0) (fun k => a 2 (k + 1)) Sm ++ wB Z (a 1 0) (fun k => a 1 (k + 1)) Sn).map some := sub_two [16, 17, 18, 19, 20, 21, 22, 23, 24, 25, 26, 27, 28] [3, 4, 5, 6, 7, 8, 9, 10, 11, 12, 13, 14, 15] _ _ _ (subX_2 Z a Sn Sm Sk T L U) (subX_1 Z a Sn Sm Sk T L U)
theorem putX_3_1 (Z : ZZ) (a : Nat → Nat → Nat) (Sn Sm Sk T L U : St) (S1' S2' : St) : putW (wX Z a Sn Sm Sk T L U) [29, 30, 31, 32, 33, 34, 35, 36, 37, 38, 39, 40, 41, 3, 4, 5, 6, 7, 8, 9, 10, 11, 12, 13, 14, 15] (wB Z (a 3 0) (fun k => a 3 (k + 1)) S1' ++ wB Z (a 1 0) (fun k => a 1 (k + 1)) S2') = wX Z a S2' Sm S1' T L U := by
  rw [show ([29, 30, 31, 32, 33, 34, 35, 36, 37, 38, 39, 40, 41, 3, 4, 5, 6, 7, 8, 9, 10, 11, 12, 13, 14, 15] : List Nat) = [29, 30, 31, 32, 33, 34, 35, 36, 37, 38, 39, 40, 41] ++ [3, 4, 5, 6, 7, 8, 9, 10, 11, 12, 13, 14, 15] from rfl, putW_two _ _ _ _ _ rfl, putX_3, putX_1 Z a Sn Sm S1' T L U]
theorem subX_3_1 (Z : ZZ) (a : Nat → Nat → Nat) (Sn Sm Sk T L U : St) : [29, 30, 31, 32, 33, 34, 35, 36, 37, 38, 39, 40, 41, 3, 4, 5, 6, 7, 8, 9, 10, 11, 12, 13, 14, 15].map (fun i => (wX Z a Sn Sm Sk T L U)[i]?) = (wB Z (a 3 0) (fun k => a 3 (k + 1)) Sk ++ wB Z (a 1 0) (fun k => a 1 (k + 1)) Sn).map some := sub_two [29, 30, 31, 32, 33, 34, 35, 36, 37, 38, 39, 40, 41] [3, 4, 5, 6, 7, 8, 9, 10, 11, 12, 13, 14, 15] _ _ _ (subX_3 Z a Sn Sm Sk T L U) (subX_1 Z a Sn Sm Sk T L U)
theorem putX_1_2 (Z : ZZ) (a : Nat → Nat → Nat) (Sn Sm Sk T L U : St) (S1' S2' : St) : putW (wX Z a Sn Sm Sk T L U) [3, 4, 5, 6, 7, 8, 9, 10, 11, 12, 13, 14, 15, 16, 17, 18, 19, 20, 21, 22, 23, 24, 25, 26, 27, 28] (wB Z (a 1 0) (fun k => a 1 (k + 1)) S1' ++ wB Z (a 2 0) (fun k => a 2 (k + 1)) S2') = wX Z a S1' S2' Sk T L U := by
  rw [show ([3, 4, 5, 6, 7, 8, 9, 10, 11, 12, 13, 14, 15, 16, 17, 18, 19, 20, 21, 22, 23, 24, 25, 26, 27, 28] : List Nat) = [3, 4, 5, 6, 7, 8, 9, 10, 11, 12, 13, 14, 15] ++ [16, 17, 18, 19, 20, 21, 22, 23, 24, 25, 26, 27, 28] from rfl, putW_two _ _ _ _ _ rfl, putX_1, putX_2 Z a S1' Sm Sk T L U]
theorem subX_1_2 (Z : ZZ) (a : Nat → Nat → Nat) (Sn Sm Sk T L U : St) : [3, 4, 5, 6, 7, 8, 9, 10, 11, 12, 13, 14, 15, 16, 17, 18, 19, 20, 21, 22, 23, 24, 25, 26, 27, 28].map (fun i => (wX Z a Sn Sm Sk T L U)[i]?) = (wB Z (a 1 0) (fun k => a 1 (k + 1)) Sn ++ wB Z (a 2 0) (fun k => a 2 (k + 1)) Sm).map some := sub_two [3, 4, 5, 6, 7, 8, 9, 10, 11, 12, 13, 14, 15] [16, 17, 18, 19, 20, 21, 22, 23, 24, 25, 26, 27, 28] _ _ _ (subX_1 Z a Sn Sm Sk T L U) (subX_2 Z a Sn Sm Sk T L U)
theorem putX_1_3 (Z : ZZ) (a : Nat → Nat → Nat) (Sn Sm Sk T L U : St) (S1' S2' : St) : putW (wX Z a Sn Sm Sk T L U) [3, 4, 5, 6, 7, 8, 9, 10, 11, 12, 13, 14, 15, 29, 30, 31, 32, 33, 34, 35, 36, 37, 38, 39, 40, 41] (wB Z (a 1 0) (fun k => a 1 (k + 1)) S1' ++ wB Z (a 3 0) (fun k => a 3 (k + 1)) S2') = wX Z a S1' Sm S2' T L U := by
  rw [show ([3, 4, 5, 6, 7, 8, 9, 10, 11, 12, 13, 14, 15, 29, 30, 31, 32, 33, 34, 35, 36, 37, 38, 39, 40, 41] : List Nat) = [3, 4, 5, 6, 7, 8, 9, 10, 11, 12, 13, 14, 15] ++ [29, 30, 31, 32, 33, 34, 35, 36, 37, 38, 39, 40, 41] from rfl, putW_two _ _ _ _ _ rfl, putX_1, putX_3 Z a S1' Sm Sk T L U]
theorem subX_1_3 (Z : ZZ) (a : Nat → Nat → Nat) (Sn Sm Sk T L U : St) : [3, 4, 5, 6, 7, 8, 9, 10, 11, 12, 13, 14, 15, 29, 30, 31, 32, 33, 34, 35, 36, 37, 38, 39, 40, 41].map (fun i => (wX Z a Sn Sm Sk T L U)[i]?) = (wB Z (a 1 0) (fun k => a 1 (k + 1)) Sn ++ wB Z (a 3 0) (fun k => a 3 (k + 1)) Sk).map some := sub_two [3, 4, 5, 6, 7, 8, 9, 10, 11, 12, 13, 14, 15] [29, 30, 31, 32, 33, 34, 35, 36, 37, 38, 39, 40, 41] _ _ _ (subX_1 Z a Sn Sm Sk T L U) (subX_3 Z a Sn Sm Sk T L U)
theorem putX_5_1 (Z : ZZ) (a : Nat → Nat → Nat) (Sn Sm Sk T L U : St) (S1' S2' : St) : putW (wX Z a Sn Sm Sk T L U) [44, 45, 46, 47, 48, 49, 50, 51, 52, 53, 3, 4, 5, 6, 7, 8, 9, 10, 11, 12, 13, 14, 15] (wW Z (a 5 0) (fun k => a 5 (k + 1)) S1' ++ wB Z (a 1 0) (fun k => a 1 (k + 1)) S2') = wX Z a S2' Sm Sk T S1' U := by
  rw [show ([44, 45, 46, 47, 48, 49, 50, 51, 52, 53, 3, 4, 5, 6, 7, 8, 9, 10, 11, 12, 13, 14, 15] : List Nat) = [44, 45, 46, 47, 48, 49, 50, 51, 52, 53] ++ [3, 4, 5, 6, 7, 8, 9, 10, 11, 12, 13, 14, 15] from rfl, putW_two _ _ _ _ _ rfl, putX_5, putX_1 Z a Sn Sm Sk T S1' U]
theorem subX_5_1 (Z : ZZ) (a : Nat → Nat → Nat) (Sn Sm Sk T L U : St) : [44, 45, 46, 47, 48, 49, 50, 51, 52, 53, 3, 4, 5, 6, 7, 8, 9, 10, 11, 12, 13, 14, 15].map (fun i => (wX Z a Sn Sm Sk T L U)[i]?) = (wW Z (a 5 0) (fun k => a 5 (k + 1)) L ++ wB Z (a 1 0) (fun k => a 1 (k + 1)) Sn).map some := sub_two [44, 45, 46, 47, 48, 49, 50, 51, 52, 53] [3, 4, 5, 6, 7, 8, 9, 10, 11, 12, 13, 14, 15] _ _ _ (subX_5 Z a Sn Sm Sk T L U) (subX_1 Z a Sn Sm Sk T L U)
