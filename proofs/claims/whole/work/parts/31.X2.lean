/-! the class itself: rows, told passings, seeds -/
def xf_row (Sn Sk T U : St) (nR : Nat) (v : Int32) : XR := if 0 ≤ v then (if 999 < v then (-6, Sn, Sk, T, rfU U 6) else if nI nR < 12 then (nI (nR + 1), Sn, Sk, T, sw (sw U 1 nR v) 0 1 (nI (nR + 1))) else (-6, Sn, Sk, T, rfU U 6)) else (-4, Sn, Sk, T, rfU U 4)
def xf_clear (Sn Sk T U : St) : XR := (U 0 1, Sn, Sk, T, sw U 0 1 0)
def xf_image (Sn T U : St) : XR := (Sn 12 2, Sn, Sn, T, sw U 0 0 1)
def xf_on (Sn Sk T U : St) : XR := if ¬ U 0 0 = 0 then (Sk 12 2, Sk, Sk, T, U) else (-3, Sn, Sk, T, rfU U 3)
def xf_fitted (Sn Sk T U : St) (nP : Nat) : XR := (nI nP - nI (pc5 (leastBareS Sn nP)), Sn, Sk, T, U)
def xf_bare (Sn Sk T U : St) (nP : Nat) : XR := (nI (leastBareS Sn nP), Sn, Sk, T, U)
def smI (f : Nat → Int32) : Nat → Int32
  | 0 => 0
  | n + 1 => smI f n + f n
def xf_count (Sn Sk T U : St) (w : Int32) : XR := if w = 0 then (Sn 12 0, Sn, Sk, T, U) else if w = 1 then (Sn 12 1, Sn, Sk, T, U) else if w = 2 then (Sn 12 2, Sn, Sk, T, U) else if w = 3 then (smI (Sn 0) 6, Sn, Sk, T, U) else if w = 4 then (smI (Sn 1) 6, Sn, Sk, T, U) else if w = 5 then (Sn 12 3, Sn, Sk, T, U) else if w = 6 then (U 0 1, Sn, Sk, T, U) else if w = 7 then (T 1 0, Sn, Sk, T, U) else if w ≤ 10 then (-9, Sn, Sk, T, U) else if 16 < w then (-9, Sn, Sk, T, U) else (U 2 (cl w - 10), Sn, Sk, T, U)
theorem cnt_of {x : Int32} (h1 : ¬ x ≤ 10) (h2 : ¬ 16 < x) : ∃ j, 1 ≤ j ∧ j ≤ 6 ∧ x = nI (j + 10) := by
  have h3 : (11 : Int32) ≤ x := by
    rw [Int32.le_iff_toInt_le] at h1 ⊢
    have e1 : (10 : Int32).toInt = 10 := by decide
    have e2 : (11 : Int32).toInt = 11 := by decide
    omega
  obtain ⟨j, h4, h5, rfl⟩ := mins_of (a := 11) (b := 16) (na := 11) (nb := 16) rfl rfl (by decide) (by decide) h3 h2
  exact ⟨j - 10, by omega, by omega, by rw [show j - 10 + 10 = j by omega]⟩
def xf_gasps (Sn Sk T U : St) (nP : Nat) (x : Int32) : XR := if 0 ≤ x then (if x ≤ 99 then (liveN nP Sn (cl x) 12 3 - Sn 12 3, Sn, Sk, T, U) else (-6, Sn, Sk, T, rfU U 6)) else (-4, Sn, Sk, T, rfU U 4)
/-- the first minute from that one on, of so many, in which one gasps -/
def outL (nP : Nat) (S : St) : Nat → Nat → Int32
  | 0, _ => -9
  | r + 1, n => if liveG nP (liveN nP S (n - 1)) ≤ 0 then outL nP S r (n + 1) else nI n
def xf_out (Sn Sk T U : St) (nP : Nat) : XR := (outL nP Sn 99 1, Sn, Sk, T, U)
theorem liveN_row (nP : Nat) (S : St) {k : Nat} (h0 : k ≠ 0) (h10 : k ≠ 10) (h12 : k ≠ 12) : ∀ n, liveN nP S n k = S k
  | 0 => rfl
  | n + 1 => by
    rw [liveN, liveS, sw_ne _ _ _ h12, sw_ne _ _ _ h12, lmB_row _ h10, lmA_row _ _ h0]
    exact liveN_row nP S h0 h10 h12 n
theorem goS_row (nP : Nat) (S : St) (p k : Nat) {r : Nat} (h0 : r ≠ 0) (h8 : r ≠ 8) (h10 : r ≠ 10) (h12 : r ≠ 12) : goS nP S p k r = S r := by
  unfold goS
  rw [liveN_row nP _ h0 h10 h12, goB_row S p k h8 h0]
theorem goS_12 (nP : Nat) (S : St) (p k : Nat) : goS nP S p k 12 1 = S 12 1 ∧ goS nP S p k 12 0 = S 12 0 := by
  unfold goS
  rw [(liveN_12 nP _ _).1, (liveN_12 nP _ _).2, goB_row S p k (by decide) (by decide)]
  exact ⟨rfl, rfl⟩
theorem canP_of {S : St} {x y : Int32} {nP nL : Nat} (hP : S 12 1 = nI nP) (hP5 : nP ≤ 5) (hL : S 12 0 = nI nL) (hL7 : nL ≤ 7) (h : ¬ canPassS S x y = 0) : ∃ p g, p < nP ∧ g < nL ∧ x = nI p ∧ y = nI g := by
  have h1 : ¬ hasPersonS S x = 0 := fun q => h (by unfold canPassS; rw [if_pos q])
  have h2 : ¬ hasLockS S y = 0 := fun q => h (by unfold canPassS; rw [if_neg h1, if_pos q])
  obtain ⟨p, hp, e1⟩ := hasP_of hP hP5 h1
  obtain ⟨g, hg, e2⟩ := hasL_of hL hL7 h2
  exact ⟨p, g, hp, hg, e1, e2⟩
/-- the burrow in mind while told passings go: as the one that is, but for what they change -/
def Like (Sn V : St) (nP nL : Nat) : Prop := V 12 1 = nI nP ∧ V 12 0 = nI nL ∧ V 5 = Sn 5
theorem Like.rf {Sn : St} {nP nL : Nat} (hP : Sn 12 1 = nI nP) (hL : Sn 12 0 = nI nL) : Like Sn Sn nP nL := ⟨hP, hL, rfl⟩
theorem Like.go {Sn V : St} {nP nL : Nat} (h : Like Sn V nP nL) (p g : Nat) : Like Sn (goS nP V p g) nP nL := ⟨(goS_12 nP V p g).1.trans h.1, (goS_12 nP V p g).2.trans h.2.1, (goS_row nP V p g (by decide) (by decide) (by decide) (by decide)).trans h.2.2⟩
/-- the told passings from one on, so many: the first that can't be, and the burrow then -/
def ptL (U : St) (nP : Nat) : Nat → Nat → St → Int32 × St
  | 0, i, V => (nI i, V)
  | r + 1, i, V => if canPassS V (U 1 i / 10) (U 1 i - U 1 i / 10 * 10) = 0 then (nI i, V) else ptL U nP r (i + 1) (goS nP V (cl (U 1 i / 10)) (cl (U 1 i - U 1 i / 10 * 10)))
def xf_judge (Sn Sk T U : St) (nP nR : Nat) : XR := if nI nR ≤ (ptL U nP nR 0 Sn).1 then (-9, Sn, Sk, T, U) else ((ptL U nP nR 0 Sn).1, Sn, Sk, T, U)
def xf_ends (Sn Sk T U : St) (nP nR : Nat) : XR := ((ptL U nP nR 0 Sn).2 12 3 - Sn 12 3, Sn, Sk, T, U)
/-- passings by seeds, so many -/
def sdL (nP : Nat) : Nat → Int32 → St → Int32 → Int32
  | 0, _, _, k => k
  | r + 1, z, V, k => if canPassS V (drawnS (nextSeedS z) (V 12 1)) (drawnS (nextSeedS (nextSeedS z)) (V 12 0)) = 0 then sdL nP r (nextSeedS (nextSeedS z)) V k else sdL nP r (nextSeedS (nextSeedS z)) (goS nP V (cl (drawnS (nextSeedS z) (V 12 1))) (cl (drawnS (nextSeedS (nextSeedS z)) (V 12 0)))) (k + 1)
def xf_seeds (Sn Sk T U : St) (nP : Nat) (x z : Int32) : XR := if 1 ≤ x then (if x ≤ 30 then (if Sn 12 1 = 0 then (-3, Sn, Sk, T, rfU U 3) else if ¬ Sn 12 0 = 0 then (sdL nP (cl x) z Sn 0, Sn, Sk, T, U) else (-3, Sn, Sk, T, rfU U 3)) else (-6, Sn, Sk, T, rfU U 6)) else (-4, Sn, Sk, T, rfU U 4)
set_option maxHeartbeats 4000000 in
set_option maxRecDepth 20000 in
theorem con_X_row (l : Launch) (Z : ZZ) (a : Nat → Nat → Nat) (Sn Sm Sk T L U : St) (v : Int32) (nR : Nat) (hR : U 0 1 = nI nR) (hR12 : nR ≤ 12) : Con l Z yX_row cX_row 2 (some .int) 1 [.ref (a 0 0), .int v] (wX Z a Sn Sm Sk T L U) (XP Z a (xf_row Sn Sk T U nR v)) := by
  refine Con.of (by decide) (Nat.le_of_ble_eq_true rfl) (fun X hX hQ => ?_)
  show G X Z (wX Z a Sn Sm Sk T L U) 0 [(0, .ref (a 0 0)), (1, .int v)] []
  refine g_iload_n hX dX_row_0 1 rfl ?_
  refine g_if_ge hX 11 dX_row_1 (by decide) (fun c_1 => ?_) (fun c_1 => ?_)
  · refine g_iload_n hX dX_row_11 1 rfl ?_
    refine g_sipush (v := 999) hX dX_row_12 (by decide) ?_
    refine g_icmp_gt hX 27 dX_row_15 (by decide) (fun c_15 => ?_) (fun c_15 => ?_)
    · refine g_aload_n hX dX_row_27 0 rfl ?_
      refine g_bipush (v := (-6)) hX dX_row_28 (by decide) ?_
      refine g_callV hX (con_X_refuse l Z a Sn Sm Sk T L U (-6) 6 (by decide) (by decide) (by decide) (by decide)) mvX_refuse q_163 rfl (by decide) 0 rfl rfl rfl (Nat.le_of_ble_eq_true rfl) dX_row_30 [0, 1, 2, 3, 4, 5, 6, 7, 8, 9, 10, 11, 12, 13, 14, 15, 16, 17, 18, 19, 20, 21, 22, 23, 24, 25, 26, 27, 28, 29, 30, 31, 32, 33, 34, 35, 36, 37, 38, 39, 40, 41, 42, 43, 44, 45, 46, 47, 48, 49, 50, 51, 52, 53] rfl (subX_all Z a Sn Sm Sk T L U) (g_fn (ws1 := wX Z a Sn Sm Sk T L (rfU U 6)) (st1 := [.int (-6)]) (putX_all Z a Sn Sm Sk T L U Sn Sm Sk T L (rfU U 6)) rfl ?_)
      exact r_iret hX hQ dX_row_33 rfl (by rw [show xf_row Sn Sk T U nR v = ((-6), Sn, Sk, T, rfU U 6) from by simp [xf_row, c_1, c_15]]; exact ⟨rfl, _, _, rfl⟩)
    · refine g_aload_n hX dX_row_18 0 rfl ?_
      refine g_get hX 0 rfl rfl 7 (by decide) uu_X q_138 rfl rfl dX_row_19 ?_
      refine g_top (y := (nI nR)) (by first | exact hR | (simp [sw]; exact hR)) ?_
      refine g_bipush (v := 12) hX dX_row_22 (by decide) ?_
      refine g_icmp_lt hX 34 dX_row_24 (by decide) (fun c_24 => ?_) (fun c_24 => ?_)
      · have hr12 : nR < 12 := (nI_ltI (a := nR) (b := 12) (by omega) (by omega)).mp c_24
        refine g_aload_n hX dX_row_34 0 rfl ?_
        refine g_get hX 0 rfl rfl 6 (by decide) uu_X q_137 rfl rfl dX_row_35 ?_
        refine g_aload_n hX dX_row_38 0 rfl ?_
        refine g_get hX 0 rfl rfl 7 (by decide) uu_X q_138 rfl rfl dX_row_39 ?_
        refine g_top (y := (nI nR)) (by first | exact hR | (simp [sw]; exact hR)) ?_
        refine g_iload_n hX dX_row_42 1 rfl ?_
        refine g_ast (ws1 := wX Z a Sn Sm Sk T L (sw U 1 nR v)) hX 1 rfl nR (by omega) (by decide) (rfl) dX_row_43 (setX_U_1 Z a Sn Sm Sk T L U nR v) ?_
        refine g_aload_n hX dX_row_44 0 rfl ?_
        refine g_dup hX dX_row_45 rfl ?_
        refine g_get hX 0 rfl rfl 7 (by decide) uu_X q_138 rfl rfl dX_row_46 ?_
        refine g_top (y := (nI nR)) (by first | exact hR | (simp [sw]; exact hR)) ?_
        refine g_iconst (v := 1) hX dX_row_49 (by decide) ?_
        refine g_iadd (z := (nI (nR + 1))) hX dX_row_50 (nI_add nR 1) ?_
        refine g_put (ws1 := wX Z a Sn Sm Sk T L (sw (sw U 1 nR v) 0 1 (nI (nR + 1)))) hX 0 rfl rfl 7 (by decide) uu_X tyF_X tyF_X_ok nmF_X q_138 rfl rfl rfl rfl rfl (Nat.le_of_ble_eq_true rfl) dX_row_51 (fldX_U_0_1 Z a Sn Sm Sk T L (sw U 1 nR v) (nI (nR + 1))) ?_
        refine g_aload_n hX dX_row_54 0 rfl ?_
        refine g_get hX 0 rfl rfl 7 (by decide) uu_X q_138 rfl rfl dX_row_55 ?_
        refine g_top (y := (nI (nR + 1))) (by simp [sw_eq, upd]) ?_
        exact r_iret hX hQ dX_row_58 rfl (by rw [show xf_row Sn Sk T U nR v = ((nI (nR + 1)), Sn, Sk, T, sw (sw U 1 nR v) 0 1 (nI (nR + 1))) from by simp [xf_row, c_1, c_15, c_24]]; exact ⟨rfl, _, _, rfl⟩)
      · refine g_aload_n hX dX_row_27 0 rfl ?_
        refine g_bipush (v := (-6)) hX dX_row_28 (by decide) ?_
        refine g_callV hX (con_X_refuse l Z a Sn Sm Sk T L U (-6) 6 (by decide) (by decide) (by decide) (by decide)) mvX_refuse q_163 rfl (by decide) 0 rfl rfl rfl (Nat.le_of_ble_eq_true rfl) dX_row_30 [0, 1, 2, 3, 4, 5, 6, 7, 8, 9, 10, 11, 12, 13, 14, 15, 16, 17, 18, 19, 20, 21, 22, 23, 24, 25, 26, 27, 28, 29, 30, 31, 32, 33, 34, 35, 36, 37, 38, 39, 40, 41, 42, 43, 44, 45, 46, 47, 48, 49, 50, 51, 52, 53] rfl (subX_all Z a Sn Sm Sk T L U) (g_fn (ws1 := wX Z a Sn Sm Sk T L (rfU U 6)) (st1 := [.int (-6)]) (putX_all Z a Sn Sm Sk T L U Sn Sm Sk T L (rfU U 6)) rfl ?_)
        exact r_iret hX hQ dX_row_33 rfl (by rw [show xf_row Sn Sk T U nR v = ((-6), Sn, Sk, T, rfU U 6) from by simp [xf_row, c_1, c_15, c_24]]; exact ⟨rfl, _, _, rfl⟩)
  · refine g_aload_n hX dX_row_4 0 rfl ?_
    refine g_bipush (v := (-4)) hX dX_row_5 (by decide) ?_
    refine g_callV hX (con_X_refuse l Z a Sn Sm Sk T L U (-4) 4 (by decide) (by decide) (by decide) (by decide)) mvX_refuse q_163 rfl (by decide) 0 rfl rfl rfl (Nat.le_of_ble_eq_true rfl) dX_row_7 [0, 1, 2, 3, 4, 5, 6, 7, 8, 9, 10, 11, 12, 13, 14, 15, 16, 17, 18, 19, 20, 21, 22, 23, 24, 25, 26, 27, 28, 29, 30, 31, 32, 33, 34, 35, 36, 37, 38, 39, 40, 41, 42, 43, 44, 45, 46, 47, 48, 49, 50, 51, 52, 53] rfl (subX_all Z a Sn Sm Sk T L U) (g_fn (ws1 := wX Z a Sn Sm Sk T L (rfU U 4)) (st1 := [.int (-4)]) (putX_all Z a Sn Sm Sk T L U Sn Sm Sk T L (rfU U 4)) rfl ?_)
    exact r_iret hX hQ dX_row_10 rfl (by rw [show xf_row Sn Sk T U nR v = ((-4), Sn, Sk, T, rfU U 4) from by simp [xf_row, c_1]]; exact ⟨rfl, _, _, rfl⟩)
set_option maxHeartbeats 4000000 in
set_option maxRecDepth 20000 in
theorem con_X_clear (l : Launch) (Z : ZZ) (a : Nat → Nat → Nat) (Sn Sm Sk T L U : St) : Con l Z yX_clear cX_clear 2 (some .int) 0 [.ref (a 0 0)] (wX Z a Sn Sm Sk T L U) (XP Z a (xf_clear Sn Sk T U)) := by
  refine Con.of (by decide) (Nat.le_of_ble_eq_true rfl) (fun X hX hQ => ?_)
  show G X Z (wX Z a Sn Sm Sk T L U) 0 [(0, .ref (a 0 0))] []
  refine g_aload_n hX dX_clear_0 0 rfl ?_
  refine g_get hX 0 rfl rfl 7 (by decide) uu_X q_138 rfl rfl dX_clear_1 ?_
  refine g_istore_n (lv1 := [(0, .ref (a 0 0)), (1, .int (U 0 1))]) hX dX_clear_4 (by decide) [1, 0] rfl ?_
  refine g_aload_n hX dX_clear_5 0 rfl ?_
  refine g_iconst (v := 0) hX dX_clear_6 (by decide) ?_
  refine g_put (ws1 := wX Z a Sn Sm Sk T L (sw U 0 1 0)) hX 0 rfl rfl 7 (by decide) uu_X tyF_X tyF_X_ok nmF_X q_138 rfl rfl rfl rfl rfl (Nat.le_of_ble_eq_true rfl) dX_clear_7 (fldX_U_0_1 Z a Sn Sm Sk T L U 0) ?_
  refine g_iload_n hX dX_clear_10 1 rfl ?_
  exact r_iret hX hQ dX_clear_11 rfl (by rw [show xf_clear Sn Sk T U = ((U 0 1), Sn, Sk, T, sw U 0 1 0) from by simp [xf_clear]]; exact ⟨rfl, _, _, rfl⟩)
set_option maxHeartbeats 4000000 in
set_option maxRecDepth 20000 in
theorem con_X_image (l : Launch) (Z : ZZ) (a : Nat → Nat → Nat) (Sn Sm Sk T L U : St) : Con l Z yX_image cX_image 1 (some .int) 2 [.ref (a 0 0)] (wX Z a Sn Sm Sk T L U) (XP Z a (xf_image Sn T U)) := by
  refine Con.of (by decide) (Nat.le_of_ble_eq_true rfl) (fun X hX hQ => ?_)
  show G X Z (wX Z a Sn Sm Sk T L U) 0 [(0, .ref (a 0 0))] []
  refine g_aload_n hX dX_image_0 0 rfl ?_
  refine g_get hX 0 rfl rfl 2 (by decide) uu_X q_133 rfl rfl dX_image_1 ?_
  refine g_aload_n hX dX_image_4 0 rfl ?_
  refine g_get hX 0 rfl rfl 0 (by decide) uu_X q_131 rfl rfl dX_image_5 ?_
  refine g_callV hX (con_B_become l Z (a 3 0) (fun k => a 3 (k + 1)) Sk (a 1 0) (fun k => a 1 (k + 1)) Sn) mvB_become q_262 rfl (by decide) 29 rfl rfl rfl (Nat.le_of_ble_eq_true rfl) dX_image_8 [29, 30, 31, 32, 33, 34, 35, 36, 37, 38, 39, 40, 41, 3, 4, 5, 6, 7, 8, 9, 10, 11, 12, 13, 14, 15] rfl (subX_3_1 Z a Sn Sm Sk T L U) (g_fn (ws1 := wX Z a Sn Sm Sn T L U) (st1 := []) (putX_3_1 Z a Sn Sm Sk T L U Sn Sn) rfl ?_)
  refine g_aload_n hX dX_image_11 0 rfl ?_
  refine g_iconst (v := 1) hX dX_image_12 (by decide) ?_
  refine g_put (ws1 := wX Z a Sn Sm Sn T L (sw U 0 0 1)) hX 0 rfl rfl 3 (by decide) uu_X tyF_X tyF_X_ok nmF_X q_134 rfl rfl rfl rfl rfl (Nat.le_of_ble_eq_true rfl) dX_image_13 (fldX_U_0_0 Z a Sn Sm Sn T L U 1) ?_
  refine g_aload_n hX dX_image_16 0 rfl ?_
  refine g_get hX 0 rfl rfl 0 (by decide) uu_X q_131 rfl rfl dX_image_17 ?_
  refine g_get hX 3 rfl rfl 14 (by decide) uu_B q_64 rfl rfl dX_image_20 ?_
  exact r_iret hX hQ dX_image_23 rfl (by rw [show xf_image Sn T U = ((Sn 12 2), Sn, Sn, T, sw U 0 0 1) from by simp [xf_image]]; exact ⟨rfl, _, _, rfl⟩)
set_option maxHeartbeats 4000000 in
set_option maxRecDepth 20000 in
theorem con_X_on (l : Launch) (Z : ZZ) (a : Nat → Nat → Nat) (Sn Sm Sk T L U : St) : Con l Z yX_on cX_on 1 (some .int) 2 [.ref (a 0 0)] (wX Z a Sn Sm Sk T L U) (XP Z a (xf_on Sn Sk T U)) := by
  refine Con.of (by decide) (Nat.le_of_ble_eq_true rfl) (fun X hX hQ => ?_)
  show G X Z (wX Z a Sn Sm Sk T L U) 0 [(0, .ref (a 0 0))] []
  refine g_aload_n hX dX_on_0 0 rfl ?_
  refine g_get hX 0 rfl rfl 3 (by decide) uu_X q_134 rfl rfl dX_on_1 ?_
  refine g_if_ne hX 14 dX_on_4 (by decide) (fun c_4 => ?_) (fun c_4 => ?_)
  · refine g_aload_n hX dX_on_14 0 rfl ?_
    refine g_get hX 0 rfl rfl 0 (by decide) uu_X q_131 rfl rfl dX_on_15 ?_
    refine g_aload_n hX dX_on_18 0 rfl ?_
    refine g_get hX 0 rfl rfl 2 (by decide) uu_X q_133 rfl rfl dX_on_19 ?_
    refine g_callV hX (con_B_become l Z (a 1 0) (fun k => a 1 (k + 1)) Sn (a 3 0) (fun k => a 3 (k + 1)) Sk) mvB_become q_262 rfl (by decide) 3 rfl rfl rfl (Nat.le_of_ble_eq_true rfl) dX_on_22 [3, 4, 5, 6, 7, 8, 9, 10, 11, 12, 13, 14, 15, 29, 30, 31, 32, 33, 34, 35, 36, 37, 38, 39, 40, 41] rfl (subX_1_3 Z a Sn Sm Sk T L U) (g_fn (ws1 := wX Z a Sk Sm Sk T L U) (st1 := []) (putX_1_3 Z a Sn Sm Sk T L U Sk Sk) rfl ?_)
    refine g_aload_n hX dX_on_25 0 rfl ?_
    refine g_get hX 0 rfl rfl 0 (by decide) uu_X q_131 rfl rfl dX_on_26 ?_
    refine g_get hX 3 rfl rfl 14 (by decide) uu_B q_64 rfl rfl dX_on_29 ?_
    exact r_iret hX hQ dX_on_32 rfl (by rw [show xf_on Sn Sk T U = ((Sk 12 2), Sk, Sk, T, U) from by simp [xf_on, c_4]]; exact ⟨rfl, _, _, rfl⟩)
  · refine g_aload_n hX dX_on_7 0 rfl ?_
    refine g_bipush (v := (-3)) hX dX_on_8 (by decide) ?_
    refine g_callV hX (con_X_refuse l Z a Sn Sm Sk T L U (-3) 3 (by decide) (by decide) (by decide) (by decide)) mvX_refuse q_163 rfl (by decide) 0 rfl rfl rfl (Nat.le_of_ble_eq_true rfl) dX_on_10 [0, 1, 2, 3, 4, 5, 6, 7, 8, 9, 10, 11, 12, 13, 14, 15, 16, 17, 18, 19, 20, 21, 22, 23, 24, 25, 26, 27, 28, 29, 30, 31, 32, 33, 34, 35, 36, 37, 38, 39, 40, 41, 42, 43, 44, 45, 46, 47, 48, 49, 50, 51, 52, 53] rfl (subX_all Z a Sn Sm Sk T L U) (g_fn (ws1 := wX Z a Sn Sm Sk T L (rfU U 3)) (st1 := [.int (-3)]) (putX_all Z a Sn Sm Sk T L U Sn Sm Sk T L (rfU U 3)) rfl ?_)
    exact r_iret hX hQ dX_on_13 rfl (by rw [show xf_on Sn Sk T U = ((-3), Sn, Sk, T, rfU U 3) from by simp [xf_on, c_4]]; exact ⟨rfl, _, _, rfl⟩)
set_option maxHeartbeats 4000000 in
set_option maxRecDepth 20000 in
theorem con_X_bare (l : Launch) (Z : ZZ) (a : Nat → Nat → Nat) (Sn Sm Sk T L U : St) (nP nL : Nat) (hP : Sn 12 1 = nI nP) (hP5 : nP ≤ 5) (hL : Sn 12 0 = nI nL) (hL7 : nL ≤ 7) : Con l Z yX_bare cX_bare 1 (some .int) 3 [.ref (a 0 0)] (wX Z a Sn Sm Sk T L U) (XP Z a (xf_bare Sn Sk T U nP)) := by
  refine Con.of (by decide) (Nat.le_of_ble_eq_true rfl) (fun X hX hQ => ?_)
  show G X Z (wX Z a Sn Sm Sk T L U) 0 [(0, .ref (a 0 0))] []
  refine g_aload_n hX dX_bare_0 0 rfl ?_
  refine g_get hX 0 rfl rfl 0 (by decide) uu_X q_131 rfl rfl dX_bare_1 ?_
  refine g_callV hX (con_B_leastBare l Z (a 1 0) (fun k => a 1 (k + 1)) Sn nP hP hP5) mvB_leastBare q_479 rfl (by decide) 3 rfl rfl rfl (Nat.le_of_ble_eq_true rfl) dX_bare_4 [3, 4, 5, 6, 7, 8, 9, 10, 11, 12, 13, 14, 15] rfl (subX_1 Z a Sn Sm Sk T L U) (g_fn (ws1 := wX Z a Sn Sm Sk T L U) (st1 := [.int (nI (leastBareS Sn nP))]) (putX_1 Z a Sn Sm Sk T L U Sn) rfl ?_)
  exact r_iret hX hQ dX_bare_7 rfl (by rw [show xf_bare Sn Sk T U nP = ((nI (leastBareS Sn nP)), Sn, Sk, T, U) from by simp [xf_bare]]; exact ⟨rfl, _, _, rfl⟩)
set_option maxHeartbeats 4000000 in
set_option maxRecDepth 20000 in
theorem con_X_fitted (l : Launch) (Z : ZZ) (a : Nat → Nat → Nat) (Sn Sm Sk T L U : St) (nP nL : Nat) (hP : Sn 12 1 = nI nP) (hP5 : nP ≤ 5) (hL : Sn 12 0 = nI nL) (hL7 : nL ≤ 7) : Con l Z yX_fitted cX_fitted 1 (some .int) 3 [.ref (a 0 0)] (wX Z a Sn Sm Sk T L U) (XP Z a (xf_fitted Sn Sk T U nP)) := by
  refine Con.of (by decide) (Nat.le_of_ble_eq_true rfl) (fun X hX hQ => ?_)
  show G X Z (wX Z a Sn Sm Sk T L U) 0 [(0, .ref (a 0 0))] []
  refine g_aload_n hX dX_fitted_0 0 rfl ?_
  refine g_get hX 0 rfl rfl 0 (by decide) uu_X q_131 rfl rfl dX_fitted_1 ?_
  refine g_get hX 3 rfl rfl 12 (by decide) uu_B q_61 rfl rfl dX_fitted_4 ?_
  refine g_top (y := (nI nP)) (hP) ?_
  refine g_aload_n hX dX_fitted_7 0 rfl ?_
  refine g_get hX 0 rfl rfl 0 (by decide) uu_X q_131 rfl rfl dX_fitted_8 ?_
  refine g_callV hX (con_B_leastBare l Z (a 1 0) (fun k => a 1 (k + 1)) Sn nP hP hP5) mvB_leastBare q_479 rfl (by decide) 3 rfl rfl rfl (Nat.le_of_ble_eq_true rfl) dX_fitted_11 [3, 4, 5, 6, 7, 8, 9, 10, 11, 12, 13, 14, 15] rfl (subX_1 Z a Sn Sm Sk T L U) (g_fn (ws1 := wX Z a Sn Sm Sk T L U) (st1 := [.int (nI (leastBareS Sn nP)), .int (nI nP)]) (putX_1 Z a Sn Sm Sk T L U Sn) rfl ?_)
  refine g_callS hX (con_JI_bitCount l Z (leastBareS Sn nP) (lbS_le Sn nP _ (all_lt nP hP5) _ (Nat.le_refl _))) msJI_bitCount q_497 rfl (by decide) rfl (Nat.le_of_ble_eq_true rfl) dX_fitted_14 [] rfl (rfl) (g_fn (ws1 := wX Z a Sn Sm Sk T L U) (st1 := [.int (nI (pc5 (leastBareS Sn nP))), .int (nI nP)]) (rfl) rfl ?_)
  refine g_isub (z := ((nI nP) - (nI (pc5 (leastBareS Sn nP))))) hX dX_fitted_17 (rfl) ?_
  exact r_iret hX hQ dX_fitted_18 rfl (by rw [show xf_fitted Sn Sk T U nP = (((nI nP) - (nI (pc5 (leastBareS Sn nP)))), Sn, Sk, T, U) from by simp [xf_fitted]]; exact ⟨rfl, _, _, rfl⟩)
set_option maxHeartbeats 4000000 in
set_option maxRecDepth 20000 in
theorem con_X_sum (l : Launch) (Z : ZZ) (b9 : Nat) (S : St) : Con l Z yX_sum cX_sum 6 (some .int) 0 [.ref b9] [(b9, .inl (zI Z, 6, .inl (S 0)))] (Fn (some (.int (smI (S 0) 6))) [(b9, .inl (zI Z, 6, .inl (S 0)))]) := by
  refine Con.of (by decide) (Nat.le_of_ble_eq_true rfl) (fun X hX hQ => ?_)
  show G X Z [(b9, .inl (zI Z, 6, .inl (S 0)))] 0 [(0, .ref b9)] []
  refine g_iconst (v := 0) hX dX_sum_0 (by decide) ?_
  refine g_istore_n (lv1 := [(0, .ref b9), (1, .int 0)]) hX dX_sum_1 (by decide) [1, 0] rfl ?_
  refine g_aload_n hX dX_sum_2 0 rfl ?_
  refine g_astore_n (lv1 := [(0, .ref b9), (1, .int 0), (2, .ref b9)]) hX dX_sum_3 (by decide) [1, 2, 0] rfl ?_
  refine g_aload_n hX dX_sum_4 2 rfl ?_
  refine g_alen (v := nI 6) hX 0 0 rfl rfl rfl dX_sum_5 ?_
  refine g_istore_n (lv1 := [(0, .ref b9), (1, .int 0), (2, .ref b9), (3, .int (nI 6))]) hX dX_sum_6 (by decide) [1, 2, 3, 0] rfl ?_
  refine g_iconst (v := 0) hX dX_sum_7 (by decide) ?_
  refine g_istore (lv1 := [(0, .ref b9), (1, .int 0), (2, .ref b9), (3, .int (nI 6)), (4, .int 0)]) hX dX_sum_8 (by decide) [1, 2, 3, 4, 0] rfl ?_
  have hL_10 : ∀ i0, i0 ≤ 6 → G X Z ([(b9, .inl (zI Z, 6, .inl (S 0)))]) 10 [(0, .ref b9), (1, .int (smI (S 0) i0)), (2, .ref b9), (3, .int (nI 6)), (4, .int (nI i0))] [] := by
    refine loopUp _ 6 ?_ (fun i0 hi_i0 ih_i0 => ?_)
    · skip
      refine g_iload hX dX_sum_10 4 rfl ?_
      refine g_iload_n hX dX_sum_12 3 rfl ?_
      refine g_icmp_ge hX 33 dX_sum_13 (by decide) (fun c_13 => ?_) (fun c_13 => absurd (nI_le (a := 6) (b := 6) (Nat.le_refl _) (by omega)) c_13)
      refine g_iload_n hX dX_sum_33 1 rfl ?_
      exact r_iret hX hQ dX_sum_34 rfl (⟨rfl, rfl⟩)
    · skip
      refine g_iload hX dX_sum_10 4 rfl ?_
      refine g_iload_n hX dX_sum_12 3 rfl ?_
      refine g_icmp_ge hX 33 dX_sum_13 (by decide) (fun c_13 => absurd c_13 (nI_ge (a := i0) (b := 6) hi_i0 (by omega))) (fun c_13 => ?_)
      refine g_aload_n hX dX_sum_16 2 rfl ?_
      refine g_iload hX dX_sum_17 4 rfl ?_
      refine g_ald (v := (S 0 i0)) hX 0 rfl i0 (by omega) (by decide) (rfl) (rfl) dX_sum_19 ?_
      refine g_istore (lv1 := [(0, .ref b9), (1, .int (smI (S 0) i0)), (2, .ref b9), (3, .int (nI 6)), (4, .int (nI i0)), (5, .int (S 0 i0))]) hX dX_sum_20 (by decide) [1, 2, 3, 4, 5, 0] rfl ?_
      refine g_iload_n hX dX_sum_22 1 rfl ?_
      refine g_iload hX dX_sum_23 5 rfl ?_
      refine g_iadd (z := ((smI (S 0) i0) + (S 0 i0))) hX dX_sum_25 (rfl) ?_
      refine g_istore_n (lv1 := [(0, .ref b9), (1, .int ((smI (S 0) i0) + (S 0 i0))), (2, .ref b9), (3, .int (nI 6)), (4, .int (nI i0)), (5, .int (S 0 i0))]) hX dX_sum_26 (by decide) [1, 0, 2, 3, 4, 5] rfl ?_
      refine g_iinc (v := (nI (i0 + 1))) (lv1 := [(0, .ref b9), (1, .int ((smI (S 0) i0) + (S 0 i0))), (2, .ref b9), (3, .int (nI 6)), (4, .int (nI (i0 + 1))), (5, .int (S 0 i0))]) hX dX_sum_27 4 rfl (inc_nat _) (by decide) [1, 2, 3, 4, 0, 5] rfl ?_
      refine g_goto hX 10 dX_sum_30 (by decide) ?_
      refine g_lv (lv1 := [(0, .ref b9), (1, .int ((smI (S 0) i0) + (S 0 i0))), (2, .ref b9), (3, .int (nI 6)), (4, .int (nI (i0 + 1)))]) [0, 1, 2, 3, 4] rfl ?_
      have e_1 : ((smI (S 0) i0) + (S 0 i0)) = (smI (S 0) (i0 + 1)) := by rfl
      exact g_eq (rfl) (by rw [e_1]) rfl ih_i0
  exact hL_10 0 (Nat.zero_le _)
set_option maxHeartbeats 4000000 in
set_option maxRecDepth 20000 in
theorem con_X_count (l : Launch) (Z : ZZ) (a : Nat → Nat → Nat) (Sn Sm Sk T L U : St) (w : Int32) : Con l Z yX_count cX_count 2 (some .int) 1 [.ref (a 0 0), .int w] (wX Z a Sn Sm Sk T L U) (XP Z a (xf_count Sn Sk T U w)) := by
  refine Con.of (by decide) (Nat.le_of_ble_eq_true rfl) (fun X hX hQ => ?_)
  show G X Z (wX Z a Sn Sm Sk T L U) 0 [(0, .ref (a 0 0)), (1, .int w)] []
  refine g_iload_n hX dX_count_0 1 rfl ?_
  by_cases c_1_0 : w = 0
  · refine g_tabIn (off := 47) hX 48 dX_count_1 (by rw [c_1_0]; decide) (by rw [c_1_0]; decide) (by rw [c_1_0]; decide) (by decide) ?_
    refine g_aload_n hX dX_count_48 0 rfl ?_
    refine g_get hX 0 rfl rfl 0 (by decide) uu_X q_131 rfl rfl dX_count_49 ?_
    refine g_get hX 3 rfl rfl 7 (by decide) uu_B q_51 rfl rfl dX_count_52 ?_
    exact r_iret hX hQ dX_count_55 rfl (by rw [show xf_count Sn Sk T U w = ((Sn 12 0), Sn, Sk, T, U) from by simp [xf_count, c_1_0]]; exact ⟨rfl, _, _, rfl⟩)
  by_cases c_1_1 : w = 1
  · refine g_tabIn (off := 55) hX 56 dX_count_1 (by rw [c_1_1]; decide) (by rw [c_1_1]; decide) (by rw [c_1_1]; decide) (by decide) ?_
    refine g_aload_n hX dX_count_56 0 rfl ?_
    refine g_get hX 0 rfl rfl 0 (by decide) uu_X q_131 rfl rfl dX_count_57 ?_
    refine g_get hX 3 rfl rfl 12 (by decide) uu_B q_61 rfl rfl dX_count_60 ?_
    exact r_iret hX hQ dX_count_63 rfl (by rw [show xf_count Sn Sk T U w = ((Sn 12 1), Sn, Sk, T, U) from by simp [xf_count, c_1_0, c_1_1]]; exact ⟨rfl, _, _, rfl⟩)
  by_cases c_1_2 : w = 2
  · refine g_tabIn (off := 63) hX 64 dX_count_1 (by rw [c_1_2]; decide) (by rw [c_1_2]; decide) (by rw [c_1_2]; decide) (by decide) ?_
    refine g_aload_n hX dX_count_64 0 rfl ?_
    refine g_get hX 0 rfl rfl 0 (by decide) uu_X q_131 rfl rfl dX_count_65 ?_
    refine g_get hX 3 rfl rfl 14 (by decide) uu_B q_64 rfl rfl dX_count_68 ?_
    exact r_iret hX hQ dX_count_71 rfl (by rw [show xf_count Sn Sk T U w = ((Sn 12 2), Sn, Sk, T, U) from by simp [xf_count, c_1_0, c_1_1, c_1_2]]; exact ⟨rfl, _, _, rfl⟩)
  by_cases c_1_3 : w = 3
  · refine g_tabIn (off := 71) hX 72 dX_count_1 (by rw [c_1_3]; decide) (by rw [c_1_3]; decide) (by rw [c_1_3]; decide) (by decide) ?_
    refine g_aload_n hX dX_count_72 0 rfl ?_
    refine g_get hX 0 rfl rfl 0 (by decide) uu_X q_131 rfl rfl dX_count_73 ?_
    refine g_get hX 3 rfl rfl 0 (by decide) uu_B q_33 rfl rfl dX_count_76 ?_
    refine g_callS hX (con_X_sum l Z ((fun k => a 1 (k + 1)) 0) (fun _ => Sn 0)) msX_sum q_575 rfl (by decide) rfl (Nat.le_of_ble_eq_true rfl) dX_count_79 [4] rfl rfl (g_fn (ws1 := wX Z a Sn Sm Sk T L U) (st1 := [.int (smI (Sn 0) 6)]) rfl rfl ?_)
    exact r_iret hX hQ dX_count_82 rfl (by rw [show xf_count Sn Sk T U w = ((smI (Sn 0) 6), Sn, Sk, T, U) from by simp [xf_count, c_1_0, c_1_1, c_1_2, c_1_3]]; exact ⟨rfl, _, _, rfl⟩)
  by_cases c_1_4 : w = 4
  · refine g_tabIn (off := 82) hX 83 dX_count_1 (by rw [c_1_4]; decide) (by rw [c_1_4]; decide) (by rw [c_1_4]; decide) (by decide) ?_
    refine g_aload_n hX dX_count_83 0 rfl ?_
    refine g_get hX 0 rfl rfl 0 (by decide) uu_X q_131 rfl rfl dX_count_84 ?_
    refine g_get hX 3 rfl rfl 1 (by decide) uu_B q_35 rfl rfl dX_count_87 ?_
    refine g_callS hX (con_X_sum l Z ((fun k => a 1 (k + 1)) 1) (fun _ => Sn 1)) msX_sum q_575 rfl (by decide) rfl (Nat.le_of_ble_eq_true rfl) dX_count_90 [5] rfl rfl (g_fn (ws1 := wX Z a Sn Sm Sk T L U) (st1 := [.int (smI (Sn 1) 6)]) rfl rfl ?_)
    exact r_iret hX hQ dX_count_93 rfl (by rw [show xf_count Sn Sk T U w = ((smI (Sn 1) 6), Sn, Sk, T, U) from by simp [xf_count, c_1_0, c_1_1, c_1_2, c_1_3, c_1_4]]; exact ⟨rfl, _, _, rfl⟩)
  by_cases c_1_5 : w = 5
  · refine g_tabIn (off := 93) hX 94 dX_count_1 (by rw [c_1_5]; decide) (by rw [c_1_5]; decide) (by rw [c_1_5]; decide) (by decide) ?_
    refine g_aload_n hX dX_count_94 0 rfl ?_
    refine g_get hX 0 rfl rfl 0 (by decide) uu_X q_131 rfl rfl dX_count_95 ?_
    refine g_get hX 3 rfl rfl 15 (by decide) uu_B q_66 rfl rfl dX_count_98 ?_
    exact r_iret hX hQ dX_count_101 rfl (by rw [show xf_count Sn Sk T U w = ((Sn 12 3), Sn, Sk, T, U) from by simp [xf_count, c_1_0, c_1_1, c_1_2, c_1_3, c_1_4, c_1_5]]; exact ⟨rfl, _, _, rfl⟩)
  by_cases c_1_6 : w = 6
  · refine g_tabIn (off := 101) hX 102 dX_count_1 (by rw [c_1_6]; decide) (by rw [c_1_6]; decide) (by rw [c_1_6]; decide) (by decide) ?_
    refine g_aload_n hX dX_count_102 0 rfl ?_
    refine g_get hX 0 rfl rfl 7 (by decide) uu_X q_138 rfl rfl dX_count_103 ?_
    exact r_iret hX hQ dX_count_106 rfl (by rw [show xf_count Sn Sk T U w = ((U 0 1), Sn, Sk, T, U) from by simp [xf_count, c_1_0, c_1_1, c_1_2, c_1_3, c_1_4, c_1_5, c_1_6]]; exact ⟨rfl, _, _, rfl⟩)
  by_cases c_1_7 : w = 7
  · refine g_tabIn (off := 106) hX 107 dX_count_1 (by rw [c_1_7]; decide) (by rw [c_1_7]; decide) (by rw [c_1_7]; decide) (by decide) ?_
    refine g_aload_n hX dX_count_107 0 rfl ?_
    refine g_get hX 0 rfl rfl 4 (by decide) uu_X q_135 rfl rfl dX_count_108 ?_
    refine g_get hX 42 rfl rfl 1 (by decide) uu_T q_109 rfl rfl dX_count_111 ?_
    exact r_iret hX hQ dX_count_114 rfl (by rw [show xf_count Sn Sk T U w = ((T 1 0), Sn, Sk, T, U) from by simp [xf_count, c_1_0, c_1_1, c_1_2, c_1_3, c_1_4, c_1_5, c_1_6, c_1_7]]; exact ⟨rfl, _, _, rfl⟩)
  refine g_tabOut hX 115 dX_count_1 (by have := ne_toInt c_1_0 (z := 0) (by decide); have := ne_toInt c_1_1 (z := 1) (by decide); have := ne_toInt c_1_2 (z := 2) (by decide); have := ne_toInt c_1_3 (z := 3) (by decide); have := ne_toInt c_1_4 (z := 4) (by decide); have := ne_toInt c_1_5 (z := 5) (by decide); have := ne_toInt c_1_6 (z := 6) (by decide); have := ne_toInt c_1_7 (z := 7) (by decide); omega) (by decide) ?_
  refine g_iload_n hX dX_count_115 1 rfl ?_
  refine g_bipush (v := 10) hX dX_count_116 (by decide) ?_
  refine g_icmp_le hX 139 dX_count_118 (by decide) (fun c_118 => ?_) (fun c_118 => ?_)
  · refine g_bipush (v := (-9)) hX dX_count_139 (by decide) ?_
    exact r_iret hX hQ dX_count_141 rfl (by rw [show xf_count Sn Sk T U w = ((-9), Sn, Sk, T, U) from by simp [xf_count, c_1_0, c_1_1, c_1_2, c_1_3, c_1_4, c_1_5, c_1_6, c_1_7, c_118]]; exact ⟨rfl, _, _, rfl⟩)
  · refine g_iload_n hX dX_count_121 1 rfl ?_
    refine g_bipush (v := 16) hX dX_count_122 (by decide) ?_
    refine g_icmp_gt hX 139 dX_count_124 (by decide) (fun c_124 => ?_) (fun c_124 => ?_)
    · refine g_bipush (v := (-9)) hX dX_count_139 (by decide) ?_
      exact r_iret hX hQ dX_count_141 rfl (by rw [show xf_count Sn Sk T U w = ((-9), Sn, Sk, T, U) from by simp [xf_count, c_1_0, c_1_1, c_1_2, c_1_3, c_1_4, c_1_5, c_1_6, c_1_7, c_118, c_124]]; exact ⟨rfl, _, _, rfl⟩)
    · obtain ⟨j1, hj1, hj6, rfl⟩ := cnt_of c_118 c_124
      refine g_aload_n hX dX_count_127 0 rfl ?_
      refine g_get hX 0 rfl rfl 8 (by decide) uu_X q_139 rfl rfl dX_count_128 ?_
      refine g_iload_n hX dX_count_131 1 rfl ?_
      refine g_bipush (v := 10) hX dX_count_132 (by decide) ?_
      refine g_isub (z := (nI (j1 + 10 - 10))) hX dX_count_134 (pk_sub (a := j1 + 10) (b := 10) (by omega)) ?_
      refine g_ald (v := (U 2 (j1 + 10 - 10))) hX 2 rfl (j1 + 10 - 10) (by omega) (by decide) (rfl) (rfl) dX_count_135 ?_
      refine g_goto hX 141 dX_count_136 (by decide) ?_
      exact r_iret hX hQ dX_count_141 rfl (by rw [show xf_count Sn Sk T U (nI (j1 + 10)) = ((U 2 (j1 + 10 - 10)), Sn, Sk, T, U) from by simp [xf_count, c_1_0, c_1_1, c_1_2, c_1_3, c_1_4, c_1_5, c_1_6, c_1_7, c_118, c_124, show cl (nI (j1 + 10)) = j1 + 10 from nI_clamp (by omega)]]; exact ⟨rfl, _, _, rfl⟩)
set_option maxHeartbeats 4000000 in
set_option maxRecDepth 20000 in
theorem con_X_gasps (l : Launch) (Z : ZZ) (a : Nat → Nat → Nat) (Sn Sm Sk T L U : St) (x : Int32) (nP nL : Nat) (hP : Sn 12 1 = nI nP) (hP5 : nP ≤ 5) (hL : Sn 12 0 = nI nL) (hL7 : nL ≤ 7) : Con l Z yX_gasps cX_gasps 2 (some .int) 4 [.ref (a 0 0), .int x] (wX Z a Sn Sm Sk T L U) (XP Z a (xf_gasps Sn Sk T U nP x)) := by
  refine Con.of (by decide) (Nat.le_of_ble_eq_true rfl) (fun X hX hQ => ?_)
  show G X Z (wX Z a Sn Sm Sk T L U) 0 [(0, .ref (a 0 0)), (1, .int x)] []
  refine g_iload_n hX dX_gasps_0 1 rfl ?_
  refine g_if_ge hX 11 dX_gasps_1 (by decide) (fun c_1 => ?_) (fun c_1 => ?_)
  · refine g_iload_n hX dX_gasps_11 1 rfl ?_
    refine g_bipush (v := 99) hX dX_gasps_12 (by decide) ?_
    refine g_icmp_le hX 24 dX_gasps_14 (by decide) (fun c_14 => ?_) (fun c_14 => ?_)
    · obtain ⟨n1, hn10, hn19, rfl⟩ := mins_of2 (a := 0) (b := 99) (na := 0) (nb := 99) rfl rfl (by decide) (by decide) c_1 c_14
      refine g_aload_n hX dX_gasps_24 0 rfl ?_
      refine g_get hX 0 rfl rfl 1 (by decide) uu_X q_132 rfl rfl dX_gasps_25 ?_
      refine g_aload_n hX dX_gasps_28 0 rfl ?_
      refine g_get hX 0 rfl rfl 0 (by decide) uu_X q_131 rfl rfl dX_gasps_29 ?_
      refine g_callV hX (con_B_become l Z (a 2 0) (fun k => a 2 (k + 1)) Sm (a 1 0) (fun k => a 1 (k + 1)) Sn) mvB_become q_262 rfl (by decide) 16 rfl rfl rfl (Nat.le_of_ble_eq_true rfl) dX_gasps_32 [16, 17, 18, 19, 20, 21, 22, 23, 24, 25, 26, 27, 28, 3, 4, 5, 6, 7, 8, 9, 10, 11, 12, 13, 14, 15] rfl (subX_2_1 Z a Sn Sm Sk T L U) (g_fn (ws1 := wX Z a Sn Sn Sk T L U) (st1 := []) (putX_2_1 Z a Sn Sm Sk T L U Sn Sn) rfl ?_)
      refine g_aload_n hX dX_gasps_35 0 rfl ?_
      refine g_get hX 0 rfl rfl 1 (by decide) uu_X q_132 rfl rfl dX_gasps_36 ?_
      refine g_iload_n hX dX_gasps_39 1 rfl ?_
      refine g_callV hX (con_B_liveMinutes l Z (a 2 0) (fun k => a 2 (k + 1)) Sn n1 (by omega) nP hP hP5) mvB_liveMinutes q_383 rfl (by decide) 16 rfl rfl rfl (Nat.le_of_ble_eq_true rfl) dX_gasps_40 [16, 17, 18, 19, 20, 21, 22, 23, 24, 25, 26, 27, 28] rfl (subX_2 Z a Sn Sn Sk T L U) (g_fn (ws1 := wX Z a Sn (liveN nP Sn n1) Sk T L U) (st1 := [.int (liveN nP Sn n1 12 3 - Sn 12 3)]) (putX_2 Z a Sn Sn Sk T L U (liveN nP Sn n1)) rfl ?_)
      exact r_iret hX hQ dX_gasps_43 rfl (by rw [show xf_gasps Sn Sk T U nP (nI n1) = ((liveN nP Sn n1 12 3 - Sn 12 3), Sn, Sk, T, U) from by simp [xf_gasps, c_1, c_14, nI_clamp (show n1 < 2 ^ 31 by omega)]]; exact ⟨rfl, _, _, rfl⟩)
    · refine g_aload_n hX dX_gasps_17 0 rfl ?_
      refine g_bipush (v := (-6)) hX dX_gasps_18 (by decide) ?_
      refine g_callV hX (con_X_refuse l Z a Sn Sm Sk T L U (-6) 6 (by decide) (by decide) (by decide) (by decide)) mvX_refuse q_163 rfl (by decide) 0 rfl rfl rfl (Nat.le_of_ble_eq_true rfl) dX_gasps_20 [0, 1, 2, 3, 4, 5, 6, 7, 8, 9, 10, 11, 12, 13, 14, 15, 16, 17, 18, 19, 20, 21, 22, 23, 24, 25, 26, 27, 28, 29, 30, 31, 32, 33, 34, 35, 36, 37, 38, 39, 40, 41, 42, 43, 44, 45, 46, 47, 48, 49, 50, 51, 52, 53] rfl (subX_all Z a Sn Sm Sk T L U) (g_fn (ws1 := wX Z a Sn Sm Sk T L (rfU U 6)) (st1 := [.int (-6)]) (putX_all Z a Sn Sm Sk T L U Sn Sm Sk T L (rfU U 6)) rfl ?_)
      exact r_iret hX hQ dX_gasps_23 rfl (by rw [show xf_gasps Sn Sk T U nP x = ((-6), Sn, Sk, T, rfU U 6) from by simp [xf_gasps, c_1, c_14]]; exact ⟨rfl, _, _, rfl⟩)
  · refine g_aload_n hX dX_gasps_4 0 rfl ?_
    refine g_bipush (v := (-4)) hX dX_gasps_5 (by decide) ?_
    refine g_callV hX (con_X_refuse l Z a Sn Sm Sk T L U (-4) 4 (by decide) (by decide) (by decide) (by decide)) mvX_refuse q_163 rfl (by decide) 0 rfl rfl rfl (Nat.le_of_ble_eq_true rfl) dX_gasps_7 [0, 1, 2, 3, 4, 5, 6, 7, 8, 9, 10, 11, 12, 13, 14, 15, 16, 17, 18, 19, 20, 21, 22, 23, 24, 25, 26, 27, 28, 29, 30, 31, 32, 33, 34, 35, 36, 37, 38, 39, 40, 41, 42, 43, 44, 45, 46, 47, 48, 49, 50, 51, 52, 53] rfl (subX_all Z a Sn Sm Sk T L U) (g_fn (ws1 := wX Z a Sn Sm Sk T L (rfU U 4)) (st1 := [.int (-4)]) (putX_all Z a Sn Sm Sk T L U Sn Sm Sk T L (rfU U 4)) rfl ?_)
    exact r_iret hX hQ dX_gasps_10 rfl (by rw [show xf_gasps Sn Sk T U nP x = ((-4), Sn, Sk, T, rfU U 4) from by simp [xf_gasps, c_1]]; exact ⟨rfl, _, _, rfl⟩)
set_option maxHeartbeats 4000000 in
set_option maxRecDepth 20000 in
theorem con_X_out (l : Launch) (Z : ZZ) (a : Nat → Nat → Nat) (Sn Sm Sk T L U : St) (nP nL : Nat) (hP : Sn 12 1 = nI nP) (hP5 : nP ≤ 5) (hL : Sn 12 0 = nI nL) (hL7 : nL ≤ 7) : Con l Z yX_out cX_out 2 (some .int) 4 [.ref (a 0 0)] (wX Z a Sn Sm Sk T L U) (XP Z a (xf_out Sn Sk T U nP)) := by
  refine Con.of (by decide) (Nat.le_of_ble_eq_true rfl) (fun X hX hQ => ?_)
  show G X Z (wX Z a Sn Sm Sk T L U) 0 [(0, .ref (a 0 0))] []
  refine g_aload_n hX dX_out_0 0 rfl ?_
  refine g_get hX 0 rfl rfl 1 (by decide) uu_X q_132 rfl rfl dX_out_1 ?_
  refine g_aload_n hX dX_out_4 0 rfl ?_
  refine g_get hX 0 rfl rfl 0 (by decide) uu_X q_131 rfl rfl dX_out_5 ?_
  refine g_callV hX (con_B_become l Z (a 2 0) (fun k => a 2 (k + 1)) Sm (a 1 0) (fun k => a 1 (k + 1)) Sn) mvB_become q_262 rfl (by decide) 16 rfl rfl rfl (Nat.le_of_ble_eq_true rfl) dX_out_8 [16, 17, 18, 19, 20, 21, 22, 23, 24, 25, 26, 27, 28, 3, 4, 5, 6, 7, 8, 9, 10, 11, 12, 13, 14, 15] rfl (subX_2_1 Z a Sn Sm Sk T L U) (g_fn (ws1 := wX Z a Sn Sn Sk T L U) (st1 := []) (putX_2_1 Z a Sn Sm Sk T L U Sn Sn) rfl ?_)
  refine g_iconst (v := 1) hX dX_out_11 (by decide) ?_
  refine g_istore_n (lv1 := [(0, .ref (a 0 0)), (1, .int 1)]) hX dX_out_12 (by decide) [1, 0] rfl ?_
  have hL_13 : ∀ i0, i0 ≤ 100 → ∀ (V0 : St), V0 = liveN nP Sn (i0 - 1) ∧ outL nP Sn (100 - i0) i0 = outL nP Sn 99 1 ∧ 1 ≤ i0 → G X Z (wX Z a Sn V0 Sk T L U) 13 [(0, .ref (a 0 0)), (1, .int (nI i0))] [] := by
    refine loopUp _ 100 ?_ (fun i0 hi_i0 ih_i0 => ?_)
    · intro V0 hq_i0
      refine g_iload_n hX dX_out_13 1 rfl ?_
      refine g_bipush (v := 99) hX dX_out_14 (by decide) ?_
      refine g_icmp_gt hX 37 dX_out_16 (by decide) (fun c_16 => ?_) (fun c_16 => absurd (by decide) c_16)
      refine g_bipush (v := (-9)) hX dX_out_37 (by decide) ?_
      exact r_iret hX hQ dX_out_39 rfl (by rw [show xf_out Sn Sk T U nP = ((-9), Sn, Sk, T, U) from congrArg (fun z => (z, Sn, Sk, T, U)) (by show outL nP Sn 99 1 = _; rw [← hq_i0.2.1, Nat.sub_self]; rfl)]; exact ⟨rfl, _, _, rfl⟩)
    · intro V0 hq_i0
      refine g_iload_n hX dX_out_13 1 rfl ?_
      refine g_bipush (v := 99) hX dX_out_14 (by decide) ?_
      refine g_icmp_gt hX 37 dX_out_16 (by decide) (fun c_16 => absurd c_16 (nI_nlt (a := 99) (b := i0) (by omega) (by omega))) (fun c_16 => ?_)
      refine g_aload_n hX dX_out_19 0 rfl ?_
      refine g_get hX 0 rfl rfl 1 (by decide) uu_X q_132 rfl rfl dX_out_20 ?_
      refine g_callV hX (con_B_liveMinute l Z (a 2 0) (fun k => a 2 (k + 1)) V0 nP (by rw [hq_i0.1, (liveN_12 nP _ _).1]; exact hP) hP5) mvB_liveMinute q_404 rfl (by decide) 16 rfl rfl rfl (Nat.le_of_ble_eq_true rfl) dX_out_23 [16, 17, 18, 19, 20, 21, 22, 23, 24, 25, 26, 27, 28] rfl (subX_2 Z a Sn V0 Sk T L U) (g_fn (ws1 := wX Z a Sn (liveS nP V0) Sk T L U) (st1 := [.int (liveG nP V0)]) (putX_2 Z a Sn V0 Sk T L U (liveS nP V0)) rfl ?_)
      refine g_if_le hX 31 dX_out_26 (by decide) (fun c_26 => ?_) (fun c_26 => ?_)
      · refine g_iinc (v := (nI (i0 + 1))) (lv1 := [(0, .ref (a 0 0)), (1, .int (nI (i0 + 1)))]) hX dX_out_31 1 rfl (inc_nat _) (by decide) [1, 0] rfl ?_
        refine g_goto hX 13 dX_out_34 (by decide) ?_
        exact ih_i0 (liveS nP V0) (⟨by rw [hq_i0.1, show i0 + 1 - 1 = (i0 - 1) + 1 by omega]; rfl, by rw [← hq_i0.2.1, show 100 - i0 = (100 - (i0 + 1)) + 1 by omega, outL, ← hq_i0.1, if_pos c_26], by omega⟩)
      · refine g_iload_n hX dX_out_29 1 rfl ?_
        exact r_iret hX hQ dX_out_30 rfl (by rw [show xf_out Sn Sk T U nP = ((nI i0), Sn, Sk, T, U) from congrArg (fun z => (z, Sn, Sk, T, U)) (by show outL nP Sn 99 1 = _; rw [← hq_i0.2.1, show 100 - i0 = (100 - (i0 + 1)) + 1 by omega, outL, ← hq_i0.1, if_neg c_26])]; exact ⟨rfl, _, _, rfl⟩)
  exact hL_13 1 (by omega) Sn (⟨rfl, rfl, by decide⟩)
set_option maxHeartbeats 4000000 in
set_option maxRecDepth 20000 in
theorem con_X_passToldInMind (l : Launch) (Z : ZZ) (a : Nat → Nat → Nat) (Sn Sm Sk T L U : St) (nP nL : Nat) (hP : Sn 12 1 = nI nP) (hP5 : nP ≤ 5) (hL : Sn 12 0 = nI nL) (hL7 : nL ≤ 7) (hcy : ∀ g, g < nL → ∃ c, c ≤ 9 ∧ Sn 5 g = nI c) (nR : Nat) (hR : U 0 1 = nI nR) (hR12 : nR ≤ 12) : Con l Z yX_passToldInMind cX_passToldInMind 4 (some .int) 5 [.ref (a 0 0)] (wX Z a Sn Sm Sk T L U) (Fn (some (.int (ptL U nP nR 0 Sn).1)) (wX Z a Sn (ptL U nP nR 0 Sn).2 Sk T L U)) := by
  refine Con.of (by decide) (Nat.le_of_ble_eq_true rfl) (fun X hX hQ => ?_)
  show G X Z (wX Z a Sn Sm Sk T L U) 0 [(0, .ref (a 0 0))] []
  refine g_aload_n hX dX_passToldInMind_0 0 rfl ?_
  refine g_get hX 0 rfl rfl 1 (by decide) uu_X q_132 rfl rfl dX_passToldInMind_1 ?_
  refine g_aload_n hX dX_passToldInMind_4 0 rfl ?_
  refine g_get hX 0 rfl rfl 0 (by decide) uu_X q_131 rfl rfl dX_passToldInMind_5 ?_
  refine g_callV hX (con_B_become l Z (a 2 0) (fun k => a 2 (k + 1)) Sm (a 1 0) (fun k => a 1 (k + 1)) Sn) mvB_become q_262 rfl (by decide) 16 rfl rfl rfl (Nat.le_of_ble_eq_true rfl) dX_passToldInMind_8 [16, 17, 18, 19, 20, 21, 22, 23, 24, 25, 26, 27, 28, 3, 4, 5, 6, 7, 8, 9, 10, 11, 12, 13, 14, 15] rfl (subX_2_1 Z a Sn Sm Sk T L U) (g_fn (ws1 := wX Z a Sn Sn Sk T L U) (st1 := []) (putX_2_1 Z a Sn Sm Sk T L U Sn Sn) rfl ?_)
  refine g_iconst (v := 0) hX dX_passToldInMind_11 (by decide) ?_
  refine g_istore_n (lv1 := [(0, .ref (a 0 0)), (1, .int 0)]) hX dX_passToldInMind_12 (by decide) [1, 0] rfl ?_
  have hL_13 : ∀ i0, i0 ≤ nR → ∀ (V0 : St), Like Sn V0 nP nL ∧ ptL U nP (nR - i0) i0 V0 = ptL U nP nR 0 Sn → G X Z (wX Z a Sn V0 Sk T L U) 13 [(0, .ref (a 0 0)), (1, .int (nI i0))] [] := by
    refine loopUp _ nR ?_ (fun i0 hi_i0 ih_i0 => ?_)
    · intro V0 hq_i0
      refine g_iload_n hX dX_passToldInMind_13 1 rfl ?_
      refine g_aload_n hX dX_passToldInMind_14 0 rfl ?_
      refine g_get hX 0 rfl rfl 7 (by decide) uu_X q_138 rfl rfl dX_passToldInMind_15 ?_
      refine g_top (y := (nI nR)) (by first | exact hR | (simp [sw]; exact hR)) ?_
      refine g_icmp_ge hX 70 dX_passToldInMind_18 (by decide) (fun c_18 => ?_) (fun c_18 => absurd (nI_le (a := nR) (b := nR) (Nat.le_refl _) (by omega)) c_18)
      refine g_aload_n hX dX_passToldInMind_70 0 rfl ?_
      refine g_get hX 0 rfl rfl 7 (by decide) uu_X q_138 rfl rfl dX_passToldInMind_71 ?_
      refine g_top (y := (nI nR)) (by first | exact hR | (simp [sw]; exact hR)) ?_
      exact r_iret hX hQ dX_passToldInMind_74 rfl (by rw [show ptL U nP nR 0 Sn = ((nI nR), V0) from by rw [← hq_i0.2, Nat.sub_self]; rfl]; exact ⟨rfl, rfl⟩)
    · intro V0 hq_i0
      refine g_iload_n hX dX_passToldInMind_13 1 rfl ?_
      refine g_aload_n hX dX_passToldInMind_14 0 rfl ?_
      refine g_get hX 0 rfl rfl 7 (by decide) uu_X q_138 rfl rfl dX_passToldInMind_15 ?_
      refine g_top (y := (nI nR)) (by first | exact hR | (simp [sw]; exact hR)) ?_
      refine g_icmp_ge hX 70 dX_passToldInMind_18 (by decide) (fun c_18 => absurd c_18 (nI_ge (a := i0) (b := nR) hi_i0 (by omega))) (fun c_18 => ?_)
      refine g_aload_n hX dX_passToldInMind_21 0 rfl ?_
      refine g_get hX 0 rfl rfl 6 (by decide) uu_X q_137 rfl rfl dX_passToldInMind_22 ?_
      refine g_iload_n hX dX_passToldInMind_25 1 rfl ?_
      refine g_ald (v := (U 1 i0)) hX 1 rfl i0 (by omega) (by decide) (rfl) (rfl) dX_passToldInMind_26 ?_
      refine g_bipush (v := 10) hX dX_passToldInMind_27 (by decide) ?_
      refine g_idiv (z := ((U 1 i0) / 10)) hX dX_passToldInMind_29 (by decide) (rfl) ?_
      refine g_istore_n (lv1 := [(0, .ref (a 0 0)), (1, .int (nI i0)), (2, .int ((U 1 i0) / 10))]) hX dX_passToldInMind_30 (by decide) [1, 2, 0] rfl ?_
      refine g_aload_n hX dX_passToldInMind_31 0 rfl ?_
      refine g_get hX 0 rfl rfl 6 (by decide) uu_X q_137 rfl rfl dX_passToldInMind_32 ?_
      refine g_iload_n hX dX_passToldInMind_35 1 rfl ?_
      refine g_ald (v := (U 1 i0)) hX 1 rfl i0 (by omega) (by decide) (rfl) (rfl) dX_passToldInMind_36 ?_
      refine g_bipush (v := 10) hX dX_passToldInMind_37 (by decide) ?_
      refine g_irem (z := ((U 1 i0) - (U 1 i0) / 10 * 10)) hX dX_passToldInMind_39 (by decide) (rfl) ?_
      refine g_istore_n (lv1 := [(0, .ref (a 0 0)), (1, .int (nI i0)), (2, .int ((U 1 i0) / 10)), (3, .int ((U 1 i0) - (U 1 i0) / 10 * 10))]) hX dX_passToldInMind_40 (by decide) [1, 2, 3, 0] rfl ?_
      refine g_aload_n hX dX_passToldInMind_41 0 rfl ?_
      refine g_get hX 0 rfl rfl 1 (by decide) uu_X q_132 rfl rfl dX_passToldInMind_42 ?_
      refine g_iload_n hX dX_passToldInMind_45 2 rfl ?_
      refine g_iload_n hX dX_passToldInMind_46 3 rfl ?_
      refine g_callV hX (con_B_canPass l Z (a 2 0) (fun k => a 2 (k + 1)) V0 ((U 1 i0) / 10) ((U 1 i0) - (U 1 i0) / 10 * 10) nP nL hq_i0.1.1 hP5 hq_i0.1.2.1 hL7) mvB_canPass q_360 rfl (by decide) 16 rfl rfl rfl (Nat.le_of_ble_eq_true rfl) dX_passToldInMind_47 [16, 17, 18, 19, 20, 21, 22, 23, 24, 25, 26, 27, 28] rfl (subX_2 Z a Sn V0 Sk T L U) (g_fn (ws1 := wX Z a Sn V0 Sk T L U) (st1 := [.int (canPassS V0 ((U 1 i0) / 10) ((U 1 i0) - (U 1 i0) / 10 * 10))]) (putX_2 Z a Sn V0 Sk T L U V0) rfl ?_)
      refine g_if_ne hX 55 dX_passToldInMind_50 (by decide) (fun c_50 => ?_) (fun c_50 => ?_)
      · obtain ⟨p1, g1, hp1, hg1, ep1, eg1⟩ := canP_of hq_i0.1.1 hP5 hq_i0.1.2.1 hL7 c_50
        obtain ⟨c9, hc9, hc⟩ := hcy g1 hg1
        have hcan := canP_1 c_50
        rw [eg1, ep1] at hcan
        have e9 := hq_i0.2
        rw [show nR - i0 = (nR - (i0 + 1)) + 1 by omega, ptL, if_neg c_50, eg1, ep1, show cl (nI p1) = p1 from nI_clamp (by omega), show cl (nI g1) = g1 from nI_clamp (by omega)] at e9
        refine g_eq (lv1 := [(0, .ref (a 0 0)), (1, .int (nI i0)), (2, .int (nI p1)), (3, .int (nI g1))]) rfl (by rw [eg1, ep1]) rfl ?_
        refine g_aload_n hX dX_passToldInMind_55 0 rfl ?_
        refine g_get hX 0 rfl rfl 1 (by decide) uu_X q_132 rfl rfl dX_passToldInMind_56 ?_
        refine g_iload_n hX dX_passToldInMind_59 2 rfl ?_
        refine g_iload_n hX dX_passToldInMind_60 3 rfl ?_
        refine g_callV hX (con_B_goThrough l Z (a 2 0) (fun k => a 2 (k + 1)) V0 p1 g1 c9 nP nL hp1 hg1 hcan (by rw [hq_i0.1.2.2]; exact hc) (by omega) hq_i0.1.1 hP5 hq_i0.1.2.1 hL7) mvB_goThrough q_365 rfl (by decide) 16 rfl rfl rfl (Nat.le_of_ble_eq_true rfl) dX_passToldInMind_61 [16, 17, 18, 19, 20, 21, 22, 23, 24, 25, 26, 27, 28] rfl (subX_2 Z a Sn V0 Sk T L U) (g_fn (ws1 := wX Z a Sn (goS nP V0 p1 g1) Sk T L U) (st1 := []) (putX_2 Z a Sn V0 Sk T L U (goS nP V0 p1 g1)) rfl ?_)
        refine g_iinc (v := (nI (i0 + 1))) (lv1 := [(0, .ref (a 0 0)), (1, .int (nI (i0 + 1))), (2, .int (nI p1)), (3, .int (nI g1))]) hX dX_passToldInMind_64 1 rfl (inc_nat _) (by decide) [1, 0, 2, 3] rfl ?_
        refine g_goto hX 13 dX_passToldInMind_67 (by decide) ?_
        refine g_lv (lv1 := [(0, .ref (a 0 0)), (1, .int (nI (i0 + 1)))]) [0, 1] rfl ?_
        exact ih_i0 (goS nP V0 p1 g1) (⟨hq_i0.1.go p1 g1, e9⟩)
      · refine g_iload_n hX dX_passToldInMind_53 1 rfl ?_
        exact r_iret hX hQ dX_passToldInMind_54 rfl (by rw [show ptL U nP nR 0 Sn = ((nI i0), V0) from by rw [← hq_i0.2, show nR - i0 = (nR - (i0 + 1)) + 1 by omega, ptL, if_pos c_50]]; exact ⟨rfl, rfl⟩)
  exact hL_13 0 (Nat.zero_le _) Sn (⟨Like.rf hP hL, rfl⟩)
set_option maxHeartbeats 4000000 in
set_option maxRecDepth 20000 in
theorem con_X_judge (l : Launch) (Z : ZZ) (a : Nat → Nat → Nat) (Sn Sm Sk T L U : St) (nP nL : Nat) (hP : Sn 12 1 = nI nP) (hP5 : nP ≤ 5) (hL : Sn 12 0 = nI nL) (hL7 : nL ≤ 7) (hcy : ∀ g, g < nL → ∃ c, c ≤ 9 ∧ Sn 5 g = nI c) (nR : Nat) (hR : U 0 1 = nI nR) (hR12 : nR ≤ 12) : Con l Z yX_judge cX_judge 2 (some .int) 6 [.ref (a 0 0)] (wX Z a Sn Sm Sk T L U) (XP Z a (xf_judge Sn Sk T U nP nR)) := by
  refine Con.of (by decide) (Nat.le_of_ble_eq_true rfl) (fun X hX hQ => ?_)
  show G X Z (wX Z a Sn Sm Sk T L U) 0 [(0, .ref (a 0 0))] []
  refine g_aload_n hX dX_judge_0 0 rfl ?_
  refine g_callV hX (con_X_passToldInMind l Z a Sn Sm Sk T L U nP nL hP hP5 hL hL7 hcy nR hR hR12) mvX_passToldInMind q_534 rfl (by decide) 0 rfl rfl rfl (Nat.le_of_ble_eq_true rfl) dX_judge_1 [0, 1, 2, 3, 4, 5, 6, 7, 8, 9, 10, 11, 12, 13, 14, 15, 16, 17, 18, 19, 20, 21, 22, 23, 24, 25, 26, 27, 28, 29, 30, 31, 32, 33, 34, 35, 36, 37, 38, 39, 40, 41, 42, 43, 44, 45, 46, 47, 48, 49, 50, 51, 52, 53] rfl (subX_all Z a Sn Sm Sk T L U) (g_fn (ws1 := wX Z a Sn ((ptL U nP nR 0 Sn).2) Sk T L U) (st1 := [.int ((ptL U nP nR 0 Sn).1)]) (putX_all Z a Sn Sm Sk T L U Sn ((ptL U nP nR 0 Sn).2) Sk T L U) rfl ?_)
  refine g_istore_n (lv1 := [(0, .ref (a 0 0)), (1, .int ((ptL U nP nR 0 Sn).1))]) hX dX_judge_4 (by decide) [1, 0] rfl ?_
  refine g_iload_n hX dX_judge_5 1 rfl ?_
  refine g_aload_n hX dX_judge_6 0 rfl ?_
  refine g_get hX 0 rfl rfl 7 (by decide) uu_X q_138 rfl rfl dX_judge_7 ?_
  refine g_top (y := (nI nR)) (by first | exact hR | (simp [sw]; exact hR)) ?_
  refine g_icmp_ge hX 17 dX_judge_10 (by decide) (fun c_10 => ?_) (fun c_10 => ?_)
  · refine g_bipush (v := (-9)) hX dX_judge_17 (by decide) ?_
    exact r_iret hX hQ dX_judge_19 rfl (by rw [show xf_judge Sn Sk T U nP nR = ((-9), Sn, Sk, T, U) from by simp [xf_judge, c_10]]; exact ⟨rfl, _, _, rfl⟩)
  · refine g_iload_n hX dX_judge_13 1 rfl ?_
    refine g_goto hX 19 dX_judge_14 (by decide) ?_
    exact r_iret hX hQ dX_judge_19 rfl (by rw [show xf_judge Sn Sk T U nP nR = (((ptL U nP nR 0 Sn).1), Sn, Sk, T, U) from by simp [xf_judge, c_10]]; exact ⟨rfl, _, _, rfl⟩)
set_option maxHeartbeats 4000000 in
set_option maxRecDepth 20000 in
theorem con_X_ends (l : Launch) (Z : ZZ) (a : Nat → Nat → Nat) (Sn Sm Sk T L U : St) (nP nL : Nat) (hP : Sn 12 1 = nI nP) (hP5 : nP ≤ 5) (hL : Sn 12 0 = nI nL) (hL7 : nL ≤ 7) (hcy : ∀ g, g < nL → ∃ c, c ≤ 9 ∧ Sn 5 g = nI c) (nR : Nat) (hR : U 0 1 = nI nR) (hR12 : nR ≤ 12) : Con l Z yX_ends cX_ends 1 (some .int) 6 [.ref (a 0 0)] (wX Z a Sn Sm Sk T L U) (XP Z a (xf_ends Sn Sk T U nP nR)) := by
  refine Con.of (by decide) (Nat.le_of_ble_eq_true rfl) (fun X hX hQ => ?_)
  show G X Z (wX Z a Sn Sm Sk T L U) 0 [(0, .ref (a 0 0))] []
  refine g_aload_n hX dX_ends_0 0 rfl ?_
  refine g_callV hX (con_X_passToldInMind l Z a Sn Sm Sk T L U nP nL hP hP5 hL hL7 hcy nR hR hR12) mvX_passToldInMind q_534 rfl (by decide) 0 rfl rfl rfl (Nat.le_of_ble_eq_true rfl) dX_ends_1 [0, 1, 2, 3, 4, 5, 6, 7, 8, 9, 10, 11, 12, 13, 14, 15, 16, 17, 18, 19, 20, 21, 22, 23, 24, 25, 26, 27, 28, 29, 30, 31, 32, 33, 34, 35, 36, 37, 38, 39, 40, 41, 42, 43, 44, 45, 46, 47, 48, 49, 50, 51, 52, 53] rfl (subX_all Z a Sn Sm Sk T L U) (g_fn (ws1 := wX Z a Sn ((ptL U nP nR 0 Sn).2) Sk T L U) (st1 := [.int ((ptL U nP nR 0 Sn).1)]) (putX_all Z a Sn Sm Sk T L U Sn ((ptL U nP nR 0 Sn).2) Sk T L U) rfl ?_)
  refine g_pop hX dX_ends_4 rfl ?_
  refine g_aload_n hX dX_ends_5 0 rfl ?_
  refine g_get hX 0 rfl rfl 1 (by decide) uu_X q_132 rfl rfl dX_ends_6 ?_
  refine g_get hX 16 rfl rfl 15 (by decide) uu_B q_66 rfl rfl dX_ends_9 ?_
  refine g_aload_n hX dX_ends_12 0 rfl ?_
  refine g_get hX 0 rfl rfl 0 (by decide) uu_X q_131 rfl rfl dX_ends_13 ?_
  refine g_get hX 3 rfl rfl 15 (by decide) uu_B q_66 rfl rfl dX_ends_16 ?_
  refine g_isub (z := ((((ptL U nP nR 0 Sn).2) 12 3) - (Sn 12 3))) hX dX_ends_19 (rfl) ?_
  exact r_iret hX hQ dX_ends_20 rfl (by rw [show xf_ends Sn Sk T U nP nR = (((((ptL U nP nR 0 Sn).2) 12 3) - (Sn 12 3)), Sn, Sk, T, U) from by simp [xf_ends]]; exact ⟨rfl, _, _, rfl⟩)
set_option maxHeartbeats 4000000 in
set_option maxRecDepth 20000 in
theorem con_X_passBySeeds (l : Launch) (Z : ZZ) (a : Nat → Nat → Nat) (Sn Sm Sk T L U : St) (z : Int32) (n1 : Nat) (hn1 : n1 ≤ 30) (nP nL : Nat) (hP : Sn 12 1 = nI nP) (hP5 : nP ≤ 5) (hL : Sn 12 0 = nI nL) (hL7 : nL ≤ 7) (hcy : ∀ g, g < nL → ∃ c, c ≤ 9 ∧ Sn 5 g = nI c) : Con l Z yX_passBySeeds cX_passBySeeds 8 (some .int) 5 [.ref (a 0 0), .int (nI n1), .int z] (wX Z a Sn Sm Sk T L U) (XP Z a (sdL nP n1 z Sn 0, Sn, Sk, T, U)) := by
  refine Con.of (by decide) (Nat.le_of_ble_eq_true rfl) (fun X hX hQ => ?_)
  show G X Z (wX Z a Sn Sm Sk T L U) 0 [(0, .ref (a 0 0)), (1, .int (nI n1)), (2, .int z)] []
  refine g_aload_n hX dX_passBySeeds_0 0 rfl ?_
  refine g_get hX 0 rfl rfl 1 (by decide) uu_X q_132 rfl rfl dX_passBySeeds_1 ?_
  refine g_aload_n hX dX_passBySeeds_4 0 rfl ?_
  refine g_get hX 0 rfl rfl 0 (by decide) uu_X q_131 rfl rfl dX_passBySeeds_5 ?_
  refine g_callV hX (con_B_become l Z (a 2 0) (fun k => a 2 (k + 1)) Sm (a 1 0) (fun k => a 1 (k + 1)) Sn) mvB_become q_262 rfl (by decide) 16 rfl rfl rfl (Nat.le_of_ble_eq_true rfl) dX_passBySeeds_8 [16, 17, 18, 19, 20, 21, 22, 23, 24, 25, 26, 27, 28, 3, 4, 5, 6, 7, 8, 9, 10, 11, 12, 13, 14, 15] rfl (subX_2_1 Z a Sn Sm Sk T L U) (g_fn (ws1 := wX Z a Sn Sn Sk T L U) (st1 := []) (putX_2_1 Z a Sn Sm Sk T L U Sn Sn) rfl ?_)
  refine g_iload_n hX dX_passBySeeds_11 2 rfl ?_
  refine g_istore_n (lv1 := [(0, .ref (a 0 0)), (1, .int (nI n1)), (2, .int z), (3, .int z)]) hX dX_passBySeeds_12 (by decide) [1, 2, 3, 0] rfl ?_
  refine g_iconst (v := 0) hX dX_passBySeeds_13 (by decide) ?_
  refine g_istore (lv1 := [(0, .ref (a 0 0)), (1, .int (nI n1)), (2, .int z), (3, .int z), (4, .int 0)]) hX dX_passBySeeds_14 (by decide) [1, 2, 3, 4, 0] rfl ?_
  refine g_iconst (v := 0) hX dX_passBySeeds_16 (by decide) ?_
  refine g_istore (lv1 := [(0, .ref (a 0 0)), (1, .int (nI n1)), (2, .int z), (3, .int z), (4, .int 0), (5, .int 0)]) hX dX_passBySeeds_17 (by decide) [1, 2, 3, 4, 5, 0] rfl ?_
  have hL_19 : ∀ i0, i0 ≤ n1 → ∀ (V0 : St) (z0 : Int32) (k0 : Int32), Like Sn V0 nP nL ∧ sdL nP (n1 - i0) z0 V0 k0 = sdL nP n1 z Sn 0 → G X Z (wX Z a Sn V0 Sk T L U) 19 [(0, .ref (a 0 0)), (1, .int (nI n1)), (2, .int z), (3, .int z0), (4, .int k0), (5, .int (nI i0))] [] := by
    refine loopUp _ n1 ?_ (fun i0 hi_i0 ih_i0 => ?_)
    · intro V0 z0 k0 hq_i0
      refine g_iload hX dX_passBySeeds_19 5 rfl ?_
      refine g_iload_n hX dX_passBySeeds_21 1 rfl ?_
      refine g_icmp_ge hX 95 dX_passBySeeds_22 (by decide) (fun c_22 => ?_) (fun c_22 => absurd (nI_le (a := n1) (b := n1) (Nat.le_refl _) (by omega)) c_22)
      refine g_iload hX dX_passBySeeds_95 4 rfl ?_
      exact r_iret hX hQ dX_passBySeeds_97 rfl (⟨by rw [← hq_i0.2, Nat.sub_self]; rfl, _, _, rfl⟩)
    · intro V0 z0 k0 hq_i0
      refine g_iload hX dX_passBySeeds_19 5 rfl ?_
      refine g_iload_n hX dX_passBySeeds_21 1 rfl ?_
      refine g_icmp_ge hX 95 dX_passBySeeds_22 (by decide) (fun c_22 => absurd c_22 (nI_ge (a := i0) (b := n1) hi_i0 (by omega))) (fun c_22 => ?_)
      refine g_iload_n hX dX_passBySeeds_25 3 rfl ?_
      refine g_callS hX (con_X_nextSeed l Z z0) msX_nextSeed q_554 rfl (by decide) rfl (Nat.le_of_ble_eq_true rfl) dX_passBySeeds_26 [] rfl (rfl) (g_fn (ws1 := wX Z a Sn V0 Sk T L U) (st1 := [.int (nextSeedS z0)]) (rfl) rfl ?_)
      refine g_istore_n (lv1 := [(0, .ref (a 0 0)), (1, .int (nI n1)), (2, .int z), (3, .int (nextSeedS z0)), (4, .int k0), (5, .int (nI i0))]) hX dX_passBySeeds_29 (by decide) [1, 2, 3, 0, 4, 5] rfl ?_
      refine g_iload_n hX dX_passBySeeds_30 3 rfl ?_
      refine g_aload_n hX dX_passBySeeds_31 0 rfl ?_
      refine g_get hX 0 rfl rfl 1 (by decide) uu_X q_132 rfl rfl dX_passBySeeds_32 ?_
      refine g_get hX 16 rfl rfl 12 (by decide) uu_B q_61 rfl rfl dX_passBySeeds_35 ?_
      refine g_callS hX (con_X_drawn l Z (nextSeedS z0) (V0 12 1)) msX_drawn q_559 rfl (by decide) rfl (Nat.le_of_ble_eq_true rfl) dX_passBySeeds_38 [] rfl (rfl) (g_fn (ws1 := wX Z a Sn V0 Sk T L U) (st1 := [.int (drawnS (nextSeedS z0) (V0 12 1))]) (rfl) rfl ?_)
      refine g_istore (lv1 := [(0, .ref (a 0 0)), (1, .int (nI n1)), (2, .int z), (3, .int (nextSeedS z0)), (4, .int k0), (5, .int (nI i0)), (6, .int (drawnS (nextSeedS z0) (V0 12 1)))]) hX dX_passBySeeds_41 (by decide) [1, 2, 3, 4, 5, 6, 0] rfl ?_
      refine g_iload_n hX dX_passBySeeds_43 3 rfl ?_
      refine g_callS hX (con_X_nextSeed l Z (nextSeedS z0)) msX_nextSeed q_554 rfl (by decide) rfl (Nat.le_of_ble_eq_true rfl) dX_passBySeeds_44 [] rfl (rfl) (g_fn (ws1 := wX Z a Sn V0 Sk T L U) (st1 := [.int (nextSeedS (nextSeedS z0))]) (rfl) rfl ?_)
      refine g_istore_n (lv1 := [(0, .ref (a 0 0)), (1, .int (nI n1)), (2, .int z), (3, .int (nextSeedS (nextSeedS z0))), (4, .int k0), (5, .int (nI i0)), (6, .int (drawnS (nextSeedS z0) (V0 12 1)))]) hX dX_passBySeeds_47 (by decide) [1, 2, 3, 0, 4, 5, 6] rfl ?_
      refine g_iload_n hX dX_passBySeeds_48 3 rfl ?_
      refine g_aload_n hX dX_passBySeeds_49 0 rfl ?_
      refine g_get hX 0 rfl rfl 1 (by decide) uu_X q_132 rfl rfl dX_passBySeeds_50 ?_
      refine g_get hX 16 rfl rfl 7 (by decide) uu_B q_51 rfl rfl dX_passBySeeds_53 ?_
      refine g_callS hX (con_X_drawn l Z (nextSeedS (nextSeedS z0)) (V0 12 0)) msX_drawn q_559 rfl (by decide) rfl (Nat.le_of_ble_eq_true rfl) dX_passBySeeds_56 [] rfl (rfl) (g_fn (ws1 := wX Z a Sn V0 Sk T L U) (st1 := [.int (drawnS (nextSeedS (nextSeedS z0)) (V0 12 0))]) (rfl) rfl ?_)
      refine g_istore (lv1 := [(0, .ref (a 0 0)), (1, .int (nI n1)), (2, .int z), (3, .int (nextSeedS (nextSeedS z0))), (4, .int k0), (5, .int (nI i0)), (6, .int (drawnS (nextSeedS z0) (V0 12 1))), (7, .int (drawnS (nextSeedS (nextSeedS z0)) (V0 12 0)))]) hX dX_passBySeeds_59 (by decide) [1, 2, 3, 4, 5, 6, 7, 0] rfl ?_
      refine g_aload_n hX dX_passBySeeds_61 0 rfl ?_
      refine g_get hX 0 rfl rfl 1 (by decide) uu_X q_132 rfl rfl dX_passBySeeds_62 ?_
      refine g_iload hX dX_passBySeeds_65 6 rfl ?_
      refine g_iload hX dX_passBySeeds_67 7 rfl ?_
      refine g_callV hX (con_B_canPass l Z (a 2 0) (fun k => a 2 (k + 1)) V0 (drawnS (nextSeedS z0) (V0 12 1)) (drawnS (nextSeedS (nextSeedS z0)) (V0 12 0)) nP nL hq_i0.1.1 hP5 hq_i0.1.2.1 hL7) mvB_canPass q_360 rfl (by decide) 16 rfl rfl rfl (Nat.le_of_ble_eq_true rfl) dX_passBySeeds_69 [16, 17, 18, 19, 20, 21, 22, 23, 24, 25, 26, 27, 28] rfl (subX_2 Z a Sn V0 Sk T L U) (g_fn (ws1 := wX Z a Sn V0 Sk T L U) (st1 := [.int (canPassS V0 (drawnS (nextSeedS z0) (V0 12 1)) (drawnS (nextSeedS (nextSeedS z0)) (V0 12 0)))]) (putX_2 Z a Sn V0 Sk T L U V0) rfl ?_)
      refine g_if_eq hX 89 dX_passBySeeds_72 (by decide) (fun c_72 => ?_) (fun c_72 => ?_)
      · refine g_iinc (v := (nI (i0 + 1))) (lv1 := [(0, .ref (a 0 0)), (1, .int (nI n1)), (2, .int z), (3, .int (nextSeedS (nextSeedS z0))), (4, .int k0), (5, .int (nI (i0 + 1))), (6, .int (drawnS (nextSeedS z0) (V0 12 1))), (7, .int (drawnS (nextSeedS (nextSeedS z0)) (V0 12 0)))]) hX dX_passBySeeds_89 5 rfl (inc_nat _) (by decide) [1, 2, 3, 4, 5, 0, 6, 7] rfl ?_
        refine g_goto hX 19 dX_passBySeeds_92 (by decide) ?_
        refine g_lv (lv1 := [(0, .ref (a 0 0)), (1, .int (nI n1)), (2, .int z), (3, .int (nextSeedS (nextSeedS z0))), (4, .int k0), (5, .int (nI (i0 + 1)))]) [0, 1, 2, 3, 4, 5] rfl ?_
        exact ih_i0 V0 (nextSeedS (nextSeedS z0)) k0 (⟨hq_i0.1, by rw [← hq_i0.2, show n1 - i0 = (n1 - (i0 + 1)) + 1 by omega, sdL, if_pos c_72]⟩)
      · obtain ⟨p1, g1, hp1, hg1, ep1, eg1⟩ := canP_of hq_i0.1.1 hP5 hq_i0.1.2.1 hL7 c_72
        obtain ⟨c9, hc9, hc⟩ := hcy g1 hg1
        have hcan := canP_1 c_72
        rw [eg1, ep1] at hcan
        have e9 := hq_i0.2
        rw [show n1 - i0 = (n1 - (i0 + 1)) + 1 by omega, sdL, if_neg c_72, eg1, ep1, show cl (nI p1) = p1 from nI_clamp (by omega), show cl (nI g1) = g1 from nI_clamp (by omega)] at e9
        refine g_eq (lv1 := [(0, .ref (a 0 0)), (1, .int (nI n1)), (2, .int z), (3, .int (nextSeedS (nextSeedS z0))), (4, .int k0), (5, .int (nI i0)), (6, .int (nI p1)), (7, .int (nI g1))]) rfl (by rw [eg1, ep1]) rfl ?_
        refine g_aload_n hX dX_passBySeeds_75 0 rfl ?_
        refine g_get hX 0 rfl rfl 1 (by decide) uu_X q_132 rfl rfl dX_passBySeeds_76 ?_
        refine g_iload hX dX_passBySeeds_79 6 rfl ?_
        refine g_iload hX dX_passBySeeds_81 7 rfl ?_
        refine g_callV hX (con_B_goThrough l Z (a 2 0) (fun k => a 2 (k + 1)) V0 p1 g1 c9 nP nL hp1 hg1 hcan (by rw [hq_i0.1.2.2]; exact hc) (by omega) hq_i0.1.1 hP5 hq_i0.1.2.1 hL7) mvB_goThrough q_365 rfl (by decide) 16 rfl rfl rfl (Nat.le_of_ble_eq_true rfl) dX_passBySeeds_83 [16, 17, 18, 19, 20, 21, 22, 23, 24, 25, 26, 27, 28] rfl (subX_2 Z a Sn V0 Sk T L U) (g_fn (ws1 := wX Z a Sn (goS nP V0 p1 g1) Sk T L U) (st1 := []) (putX_2 Z a Sn V0 Sk T L U (goS nP V0 p1 g1)) rfl ?_)
        refine g_iinc (v := (k0 + 1)) (lv1 := [(0, .ref (a 0 0)), (1, .int (nI n1)), (2, .int z), (3, .int (nextSeedS (nextSeedS z0))), (4, .int (k0 + 1)), (5, .int (nI i0)), (6, .int (nI p1)), (7, .int (nI g1))]) hX dX_passBySeeds_86 4 rfl (inc_raw _) (by decide) [1, 2, 3, 4, 0, 5, 6, 7] rfl ?_
        refine g_iinc (v := (nI (i0 + 1))) (lv1 := [(0, .ref (a 0 0)), (1, .int (nI n1)), (2, .int z), (3, .int (nextSeedS (nextSeedS z0))), (4, .int (k0 + 1)), (5, .int (nI (i0 + 1))), (6, .int (nI p1)), (7, .int (nI g1))]) hX dX_passBySeeds_89 5 rfl (inc_nat _) (by decide) [1, 2, 3, 4, 5, 0, 6, 7] rfl ?_
        refine g_goto hX 19 dX_passBySeeds_92 (by decide) ?_
        refine g_lv (lv1 := [(0, .ref (a 0 0)), (1, .int (nI n1)), (2, .int z), (3, .int (nextSeedS (nextSeedS z0))), (4, .int (k0 + 1)), (5, .int (nI (i0 + 1)))]) [0, 1, 2, 3, 4, 5] rfl ?_
        exact ih_i0 (goS nP V0 p1 g1) (nextSeedS (nextSeedS z0)) (k0 + 1) (⟨hq_i0.1.go p1 g1, e9⟩)
  exact hL_19 0 (Nat.zero_le _) Sn z 0 (⟨Like.rf hP hL, rfl⟩)
set_option maxHeartbeats 4000000 in
set_option maxRecDepth 20000 in
theorem con_X_seeds (l : Launch) (Z : ZZ) (a : Nat → Nat → Nat) (Sn Sm Sk T L U : St) (x z : Int32) (nP nL : Nat) (hP : Sn 12 1 = nI nP) (hP5 : nP ≤ 5) (hL : Sn 12 0 = nI nL) (hL7 : nL ≤ 7) (hcy : ∀ g, g < nL → ∃ c, c ≤ 9 ∧ Sn 5 g = nI c) : Con l Z yX_seeds cX_seeds 3 (some .int) 6 [.ref (a 0 0), .int x, .int z] (wX Z a Sn Sm Sk T L U) (XP Z a (xf_seeds Sn Sk T U nP x z)) := by
  refine Con.of (by decide) (Nat.le_of_ble_eq_true rfl) (fun X hX hQ => ?_)
  show G X Z (wX Z a Sn Sm Sk T L U) 0 [(0, .ref (a 0 0)), (1, .int x), (2, .int z)] []
  refine g_iload_n hX dX_seeds_0 1 rfl ?_
  refine g_iconst (v := 1) hX dX_seeds_1 (by decide) ?_
  refine g_icmp_ge hX 12 dX_seeds_2 (by decide) (fun c_2 => ?_) (fun c_2 => ?_)
  · refine g_iload_n hX dX_seeds_12 1 rfl ?_
    refine g_bipush (v := 30) hX dX_seeds_13 (by decide) ?_
    refine g_icmp_le hX 25 dX_seeds_15 (by decide) (fun c_15 => ?_) (fun c_15 => ?_)
    · obtain ⟨n1, hn10, hn19, rfl⟩ := mins_of2 (a := 1) (b := 30) (na := 1) (nb := 30) rfl rfl (by decide) (by decide) c_2 c_15
      refine g_aload_n hX dX_seeds_25 0 rfl ?_
      refine g_get hX 0 rfl rfl 0 (by decide) uu_X q_131 rfl rfl dX_seeds_26 ?_
      refine g_get hX 3 rfl rfl 12 (by decide) uu_B q_61 rfl rfl dX_seeds_29 ?_
      refine g_if_eq hX 45 dX_seeds_32 (by decide) (fun c_32 => ?_) (fun c_32 => ?_)
      · refine g_aload_n hX dX_seeds_45 0 rfl ?_
        refine g_bipush (v := (-3)) hX dX_seeds_46 (by decide) ?_
        refine g_callV hX (con_X_refuse l Z a Sn Sm Sk T L U (-3) 3 (by decide) (by decide) (by decide) (by decide)) mvX_refuse q_163 rfl (by decide) 0 rfl rfl rfl (Nat.le_of_ble_eq_true rfl) dX_seeds_48 [0, 1, 2, 3, 4, 5, 6, 7, 8, 9, 10, 11, 12, 13, 14, 15, 16, 17, 18, 19, 20, 21, 22, 23, 24, 25, 26, 27, 28, 29, 30, 31, 32, 33, 34, 35, 36, 37, 38, 39, 40, 41, 42, 43, 44, 45, 46, 47, 48, 49, 50, 51, 52, 53] rfl (subX_all Z a Sn Sm Sk T L U) (g_fn (ws1 := wX Z a Sn Sm Sk T L (rfU U 3)) (st1 := [.int (-3)]) (putX_all Z a Sn Sm Sk T L U Sn Sm Sk T L (rfU U 3)) rfl ?_)
        exact r_iret hX hQ dX_seeds_51 rfl (by rw [show xf_seeds Sn Sk T U nP (nI n1) z = ((-3), Sn, Sk, T, rfU U 3) from by simp [xf_seeds, c_2, c_15, c_32, nI_clamp (show n1 < 2 ^ 31 by omega)]]; exact ⟨rfl, _, _, rfl⟩)
      · refine g_aload_n hX dX_seeds_35 0 rfl ?_
        refine g_get hX 0 rfl rfl 0 (by decide) uu_X q_131 rfl rfl dX_seeds_36 ?_
        refine g_get hX 3 rfl rfl 7 (by decide) uu_B q_51 rfl rfl dX_seeds_39 ?_
        refine g_if_ne hX 52 dX_seeds_42 (by decide) (fun c_42 => ?_) (fun c_42 => ?_)
        · refine g_aload_n hX dX_seeds_52 0 rfl ?_
          refine g_iload_n hX dX_seeds_53 1 rfl ?_
          refine g_iload_n hX dX_seeds_54 2 rfl ?_
          refine g_callV hX (con_X_passBySeeds l Z a Sn Sm Sk T L U z n1 (by omega) nP nL hP hP5 hL hL7 hcy) mvX_passBySeeds q_550 rfl (by decide) 0 rfl rfl rfl (Nat.le_of_ble_eq_true rfl) dX_seeds_55 [0, 1, 2, 3, 4, 5, 6, 7, 8, 9, 10, 11, 12, 13, 14, 15, 16, 17, 18, 19, 20, 21, 22, 23, 24, 25, 26, 27, 28, 29, 30, 31, 32, 33, 34, 35, 36, 37, 38, 39, 40, 41, 42, 43, 44, 45, 46, 47, 48, 49, 50, 51, 52, 53] rfl (subX_all Z a Sn Sm Sk T L U) (fun v w hp => ?_)
          obtain ⟨rfl, Sm1, L1, rfl⟩ := hp
          refine g_eq (ws1 := wX Z a Sn Sm1 Sk T L1 U) (st1 := [.int (sdL nP n1 z Sn 0)]) (putX_all Z a Sn Sm Sk T L U Sn Sm1 Sk T L1 U) rfl rfl ?_
          exact r_iret hX hQ dX_seeds_58 rfl (by rw [show xf_seeds Sn Sk T U nP (nI n1) z = ((sdL nP n1 z Sn 0), Sn, Sk, T, U) from by simp [xf_seeds, c_2, c_15, c_32, c_42, nI_clamp (show n1 < 2 ^ 31 by omega)]]; exact ⟨rfl, _, _, rfl⟩)
        · refine g_aload_n hX dX_seeds_45 0 rfl ?_
          refine g_bipush (v := (-3)) hX dX_seeds_46 (by decide) ?_
          refine g_callV hX (con_X_refuse l Z a Sn Sm Sk T L U (-3) 3 (by decide) (by decide) (by decide) (by decide)) mvX_refuse q_163 rfl (by decide) 0 rfl rfl rfl (Nat.le_of_ble_eq_true rfl) dX_seeds_48 [0, 1, 2, 3, 4, 5, 6, 7, 8, 9, 10, 11, 12, 13, 14, 15, 16, 17, 18, 19, 20, 21, 22, 23, 24, 25, 26, 27, 28, 29, 30, 31, 32, 33, 34, 35, 36, 37, 38, 39, 40, 41, 42, 43, 44, 45, 46, 47, 48, 49, 50, 51, 52, 53] rfl (subX_all Z a Sn Sm Sk T L U) (g_fn (ws1 := wX Z a Sn Sm Sk T L (rfU U 3)) (st1 := [.int (-3)]) (putX_all Z a Sn Sm Sk T L U Sn Sm Sk T L (rfU U 3)) rfl ?_)
          exact r_iret hX hQ dX_seeds_51 rfl (by rw [show xf_seeds Sn Sk T U nP (nI n1) z = ((-3), Sn, Sk, T, rfU U 3) from by simp [xf_seeds, c_2, c_15, c_32, c_42, nI_clamp (show n1 < 2 ^ 31 by omega)]]; exact ⟨rfl, _, _, rfl⟩)
    · refine g_aload_n hX dX_seeds_18 0 rfl ?_
      refine g_bipush (v := (-6)) hX dX_seeds_19 (by decide) ?_
      refine g_callV hX (con_X_refuse l Z a Sn Sm Sk T L U (-6) 6 (by decide) (by decide) (by decide) (by decide)) mvX_refuse q_163 rfl (by decide) 0 rfl rfl rfl (Nat.le_of_ble_eq_true rfl) dX_seeds_21 [0, 1, 2, 3, 4, 5, 6, 7, 8, 9, 10, 11, 12, 13, 14, 15, 16, 17, 18, 19, 20, 21, 22, 23, 24, 25, 26, 27, 28, 29, 30, 31, 32, 33, 34, 35, 36, 37, 38, 39, 40, 41, 42, 43, 44, 45, 46, 47, 48, 49, 50, 51, 52, 53] rfl (subX_all Z a Sn Sm Sk T L U) (g_fn (ws1 := wX Z a Sn Sm Sk T L (rfU U 6)) (st1 := [.int (-6)]) (putX_all Z a Sn Sm Sk T L U Sn Sm Sk T L (rfU U 6)) rfl ?_)
      exact r_iret hX hQ dX_seeds_24 rfl (by rw [show xf_seeds Sn Sk T U nP x z = ((-6), Sn, Sk, T, rfU U 6) from by simp [xf_seeds, c_2, c_15]]; exact ⟨rfl, _, _, rfl⟩)
  · refine g_aload_n hX dX_seeds_5 0 rfl ?_
    refine g_bipush (v := (-4)) hX dX_seeds_6 (by decide) ?_
    refine g_callV hX (con_X_refuse l Z a Sn Sm Sk T L U (-4) 4 (by decide) (by decide) (by decide) (by decide)) mvX_refuse q_163 rfl (by decide) 0 rfl rfl rfl (Nat.le_of_ble_eq_true rfl) dX_seeds_8 [0, 1, 2, 3, 4, 5, 6, 7, 8, 9, 10, 11, 12, 13, 14, 15, 16, 17, 18, 19, 20, 21, 22, 23, 24, 25, 26, 27, 28, 29, 30, 31, 32, 33, 34, 35, 36, 37, 38, 39, 40, 41, 42, 43, 44, 45, 46, 47, 48, 49, 50, 51, 52, 53] rfl (subX_all Z a Sn Sm Sk T L U) (g_fn (ws1 := wX Z a Sn Sm Sk T L (rfU U 4)) (st1 := [.int (-4)]) (putX_all Z a Sn Sm Sk T L U Sn Sm Sk T L (rfU U 4)) rfl ?_)
    exact r_iret hX hQ dX_seeds_11 rfl (by rw [show xf_seeds Sn Sk T U nP x z = ((-4), Sn, Sk, T, rfU U 4) from by simp [xf_seeds, c_2]]; exact ⟨rfl, _, _, rfl⟩)
