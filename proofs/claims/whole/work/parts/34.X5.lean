/-! the class itself: the letters become a burrow -/
theorem keysX {Z : ZZ} {a : Nat → Nat → Nat} {Sn Sm Sk T L U Sn' Sm' Sk' T' L' U' : St} : (wX Z a Sn Sm Sk T L U).map (·.1) = (wX Z a Sn' Sm' Sk' T' L' U').map (·.1) := rfl
/-- what a statement tells: whether it can, and the burrow behind it -/
def stO (T : St) (nT : Nat) (V : St) (k : Nat) : Int32 := if sg T nT k = 107 then okLeak (dg T nT (k + 1)) (dg T nT (k + 2)) else if sg T nT k = 108 then okLock (cl (V 12 0)) (dg T nT (k + 1)) (dg T nT (k + 2)) (dg T nT (k + 3)) (dg T nT (k + 4)) else if sg T nT k = 112 then okPerson (cl (V 12 1)) (kindOfS (sg T nT (k + 1))) (dg T nT (k + 2)) (dg T nT (k + 3)) (nmb T nT (k + 5)) else if sg T nT k = 114 then okAir (dg T nT (k + 1)) (nmb T nT (k + 3)) else if sg T nT k = 115 then okSuits (dg T nT (k + 1)) (dg T nT (k + 2)) else 0
def stS (T : St) (nT : Nat) (V : St) (k : Nat) : St := if sg T nT k = 107 then tellLeakS V (dg T nT (k + 1)) (dg T nT (k + 2)) else if sg T nT k = 108 then tellLockS V (cl (V 12 0)) (dg T nT (k + 1)) (dg T nT (k + 2)) (dg T nT (k + 3)) (dg T nT (k + 4)) else if sg T nT k = 112 then tellPersonS V (cl (V 12 1)) (kindOfS (sg T nT (k + 1))) (dg T nT (k + 2)) (dg T nT (k + 3)) (nmb T nT (k + 5)) else if sg T nT k = 114 then tellAirS V (dg T nT (k + 1)) (nmb T nT (k + 3)) else if sg T nT k = 115 then tellSuitsS V (dg T nT (k + 1)) (dg T nT (k + 2)) else V
/-- how many people and locks there are -/
def MB (V : St) : Prop := V 12 1 = nI (cl (V 12 1)) ∧ cl (V 12 1) ≤ 5 ∧ V 12 0 = nI (cl (V 12 0)) ∧ cl (V 12 0) ≤ 7
theorem MB.of {V : St} {nP nL : Nat} (hP : V 12 1 = nI nP) (hP5 : nP ≤ 5) (hL : V 12 0 = nI nL) (hL7 : nL ≤ 7) : MB V := by
  unfold MB
  rw [hP, hL, show cl (nI nP) = nP from nI_clamp (by omega), show cl (nI nL) = nL from nI_clamp (by omega)]
  exact ⟨rfl, hP5, rfl, hL7⟩
theorem MB.same {V V' : St} (h : MB V) (e : V' 12 = V 12) : MB V' := by
  unfold MB
  rw [e]
  exact h
theorem MB.st {T : St} {nT : Nat} {V : St} {k : Nat} (h : MB V) : MB (stS T nT V k) := by
  obtain ⟨h1, h2, h3, h4⟩ := h
  have h0 : MB V := ⟨h1, h2, h3, h4⟩
  unfold stS
  repeat' split
  · unfold tellLeakS; split
    · exact h0.same (sw_ne _ _ _ (by decide))
    · exact h0
  · unfold tellLockS; split
    · next hh =>
      have hl : cl (V 12 0) < 7 := by
        unfold okLock at hh
        repeat' split at hh
        all_goals first | (exact absurd hh (by decide)) | skip
        next q => exact (nI_ltI (a := cl (V 12 0)) (b := 7) (by omega) (by omega)).mp q
      refine MB.of (nP := cl (V 12 1)) (nL := cl (V 12 0) + 1) ?_ h2 ?_ (by omega)
      · unfold addLock
        rw [sw_eq]
        show (if (1 : Nat) = 0 then _ else _) = _
        rw [if_neg (by decide), sw_ne _ _ _ (by decide), sw_ne _ _ _ (by decide), sw_ne _ _ _ (by decide), sw_ne _ _ _ (by decide), sw_ne _ _ _ (by decide)]
        exact h1
      · unfold addLock
        rw [sw_eq]
        rfl
    · exact h0
  · unfold tellPersonS; split
    · next hh =>
      have hl : cl (V 12 1) < 5 := by
        unfold okPerson at hh
        repeat' split at hh
        all_goals first | (exact absurd hh (by decide)) | skip
        next q => exact (nI_ltI (a := cl (V 12 1)) (b := 5) (by omega) (by omega)).mp q
      refine MB.of (nP := cl (V 12 1) + 1) (nL := cl (V 12 0)) ?_ (by omega) ?_ h4
      · unfold addPerson
        rw [sw_eq]
        rfl
      · unfold addPerson
        rw [sw_eq]
        show (if (0 : Nat) = 1 then _ else _) = _
        rw [if_neg (by decide), sw_ne _ _ _ (by decide), sw_ne _ _ _ (by decide), sw_ne _ _ _ (by decide), sw_ne _ _ _ (by decide)]
        exact h3
    · exact h0
  · unfold tellAirS; split
    · exact h0.same (sw_ne _ _ _ (by decide))
    · exact h0
  · unfold tellSuitsS; split
    · exact h0.same (sw_ne _ _ _ (by decide))
    · exact h0
  · exact h0
/-- so many statements at most, from a place on: the answer, and the burrow -/
def rdL (T : St) (nT : Nat) (S0 : St) : Nat → Nat → St → Int32 × St
  | 0, _, V => (nI 96, V)
  | r + 1, k, V => if nI nT ≤ nI k then (nI (96 - (r + 1)), V) else if ¬ stO T nT V k = 0 then rdL T nT S0 r (cl (bs T nT k)) (stS T nT V k) else (-2000 - nI k, S0)
def xf_read (Sn Sk T U : St) (nT : Nat) : XR := if mf T nT < 0 then ((rdL T nT Sn 96 0 Sn).1, (rdL T nT Sn 96 0 Sn).2, Sk, T, U) else (-1000 - mf T nT, Sn, Sk, T, U)
def xf_burrow (Sn Sk T U : St) (nT : Nat) : XR := ((xf_read Sn Sk T U nT).1, (xf_read Sn Sk T U nT).2.1, Sk, sw T 1 0 0, U)
theorem nar01 {v : Int32} (h : v = 0 ∨ v = 1) : narrow .boolean (.int v) = .int v := by
  rcases h with rfl | rfl <;> rfl
theorem ite01 {c : Prop} [Decidable c] {a b : Int32} (ha : a = 0 ∨ a = 1) (hb : b = 0 ∨ b = 1) : (if c then a else b) = 0 ∨ (if c then a else b) = 1 := by
  split
  · exact ha
  · exact hb
theorem okLeak_01 (x v : Int32) : okLeak x v = 0 ∨ okLeak x v = 1 := by unfold okLeak; repeat' first | exact Or.inl rfl | exact Or.inr rfl | apply ite01
theorem okAir_01 (x v : Int32) : okAir x v = 0 ∨ okAir x v = 1 := by unfold okAir; repeat' first | exact Or.inl rfl | exact Or.inr rfl | apply ite01
theorem okSuits_01 (x v : Int32) : okSuits x v = 0 ∨ okSuits x v = 1 := by unfold okSuits; repeat' first | exact Or.inl rfl | exact Or.inr rfl | apply ite01
theorem okLock_01 (n : Nat) (x y t c : Int32) : okLock n x y t c = 0 ∨ okLock n x y t c = 1 := by unfold okLock; repeat' first | exact Or.inl rfl | exact Or.inr rfl | apply ite01
theorem okPerson_01 (n : Nat) (k x f s : Int32) : okPerson n k x f s = 0 ∨ okPerson n k x f s = 1 := by unfold okPerson; repeat' first | exact Or.inl rfl | exact Or.inr rfl | apply ite01
theorem m1_sub {x : Int32} (h : x < 0) : 0 ≤ -1 - x := by
  have hx := x.minValue_le_toInt
  rw [Int32.lt_iff_toInt_lt] at h
  rw [Int32.le_iff_toInt_le]
  have e0 : (0 : Int32).toInt = 0 := by decide
  have e1 : (-1 : Int32).toInt = -1 := by decide
  have e2 : Int32.minValue.toInt = -2147483648 := by decide
  rw [Int32.toInt_sub, e0, e1, Int.bmod_eq_of_le (by omega) (by omega)]
  omega
/-- where the letters are a burrow's, the statement that begins there goes on to its end -/
theorem rd_next {T : St} {nT r k : Nat} (hT96 : nT ≤ 96) (hm : mf T nT < 0) (h : mfL T nT (r + 1) k = mf T nT) : bs T nT k = nI (cl (bs T nT k)) ∧ cl (bs T nT k) < 2 ^ 31 ∧ (nT ≤ cl (bs T nT k) ∨ mfL T nT r (cl (bs T nT k)) = mf T nT) := by
  rw [mfL] at h
  by_cases h0 : 0 ≤ bs T nT k
  · rw [if_pos h0] at h
    obtain ⟨j, hj, e⟩ := nI_of (Int32.not_lt.mpr h0)
    have ec : cl (bs T nT k) = j := by rw [e]; exact nI_clamp hj
    refine ⟨by rw [ec]; exact e, by omega, ?_⟩
    by_cases h1 : bs T nT k < nI nT
    · rw [if_pos h1] at h
      exact Or.inr h
    · rw [e, nI_ltI hj (by omega)] at h1
      exact Or.inl (by omega)
  · rw [if_neg h0] at h
    have h2 := m1_sub (Int32.not_le.mp h0)
    rw [h] at h2
    exact absurd hm (Int32.not_lt.mpr h2)
theorem xf_read_rest (Sn Sk T U : St) (nT : Nat) : (xf_read Sn Sk T U nT).2.2 = (Sk, T, U) := by
  unfold xf_read
  split <;> rfl
set_option maxHeartbeats 400000 in
set_option maxRecDepth 20000 in
theorem con_X_comesToMind (l : Launch) (Z : ZZ) (a : Nat → Nat → Nat) (Sn Sm Sk T L U : St) (k : Nat) (hk : k < 1000) (hM : MB Sm) (nT : Nat) (hT : T 1 0 = nI nT) (hT96 : nT ≤ 96) : Con l Z yX_comesToMind cX_comesToMind 5 (some .boolean) 3 [.ref (a 0 0), .int (nI k)] (wX Z a Sn Sm Sk T L U) (Fn (some (.int (stO T nT Sm k))) (wX Z a Sn (stS T nT Sm k) Sk T L U)) := by
  refine Con.of (by decide) (Nat.le_of_ble_eq_true rfl) (fun X hX hQ => ?_)
  show G X Z (wX Z a Sn Sm Sk T L U) 0 [(0, .ref (a 0 0)), (1, .int (nI k))] []
  obtain ⟨nP, hnP⟩ : ∃ n, cl (Sm 12 1) = n := ⟨_, rfl⟩
  obtain ⟨nL, hnL⟩ : ∃ n, cl (Sm 12 0) = n := ⟨_, rfl⟩
  obtain ⟨hP, hP5, hL, hL7⟩ := hM
  rw [hnP] at hP hP5
  rw [hnL] at hL hL7
  refine g_aload_n hX dX_comesToMind_0 0 rfl ?_
  refine g_get hX 0 rfl rfl 4 (by decide) uu_X q_135 rfl rfl dX_comesToMind_1 ?_
  refine g_iload_n hX dX_comesToMind_4 1 rfl ?_
  refine g_iconst (v := 1) hX dX_comesToMind_5 (by decide) ?_
  refine g_iadd (z := (nI (k + 1))) hX dX_comesToMind_6 (nI_add k 1) ?_
  refine g_callV hX (con_T_digitAt l Z (a 4 0) (fun k => a 4 (k + 1)) T (k + 1) (by omega) nT hT hT96) mvT_digitAt q_273 rfl (by decide) 42 rfl rfl rfl (Nat.le_of_ble_eq_true rfl) dX_comesToMind_7 [42, 43] rfl (subX_4 Z a Sn Sm Sk T L U) (g_fn (ws1 := wX Z a Sn Sm Sk T L U) (st1 := [.int (dg T nT (k + 1))]) (putX_4 Z a Sn Sm Sk T L U T) rfl ?_)
  refine g_istore_n (lv1 := [(0, .ref (a 0 0)), (1, .int (nI k)), (2, .int (dg T nT (k + 1)))]) hX dX_comesToMind_10 (by decide) [1, 2, 0] rfl ?_
  refine g_aload_n hX dX_comesToMind_11 0 rfl ?_
  refine g_get hX 0 rfl rfl 4 (by decide) uu_X q_135 rfl rfl dX_comesToMind_12 ?_
  refine g_iload_n hX dX_comesToMind_15 1 rfl ?_
  refine g_iconst (v := 2) hX dX_comesToMind_16 (by decide) ?_
  refine g_iadd (z := (nI (k + 2))) hX dX_comesToMind_17 (nI_add k 2) ?_
  refine g_callV hX (con_T_digitAt l Z (a 4 0) (fun k => a 4 (k + 1)) T (k + 2) (by omega) nT hT hT96) mvT_digitAt q_273 rfl (by decide) 42 rfl rfl rfl (Nat.le_of_ble_eq_true rfl) dX_comesToMind_18 [42, 43] rfl (subX_4 Z a Sn Sm Sk T L U) (g_fn (ws1 := wX Z a Sn Sm Sk T L U) (st1 := [.int (dg T nT (k + 2))]) (putX_4 Z a Sn Sm Sk T L U T) rfl ?_)
  refine g_istore_n (lv1 := [(0, .ref (a 0 0)), (1, .int (nI k)), (2, .int (dg T nT (k + 1))), (3, .int (dg T nT (k + 2)))]) hX dX_comesToMind_21 (by decide) [1, 2, 3, 0] rfl ?_
  refine g_aload_n hX dX_comesToMind_22 0 rfl ?_
  refine g_get hX 0 rfl rfl 4 (by decide) uu_X q_135 rfl rfl dX_comesToMind_23 ?_
  refine g_iload_n hX dX_comesToMind_26 1 rfl ?_
  refine g_iconst (v := 3) hX dX_comesToMind_27 (by decide) ?_
  refine g_iadd (z := (nI (k + 3))) hX dX_comesToMind_28 (nI_add k 3) ?_
  refine g_callV hX (con_T_digitAt l Z (a 4 0) (fun k => a 4 (k + 1)) T (k + 3) (by omega) nT hT hT96) mvT_digitAt q_273 rfl (by decide) 42 rfl rfl rfl (Nat.le_of_ble_eq_true rfl) dX_comesToMind_29 [42, 43] rfl (subX_4 Z a Sn Sm Sk T L U) (g_fn (ws1 := wX Z a Sn Sm Sk T L U) (st1 := [.int (dg T nT (k + 3))]) (putX_4 Z a Sn Sm Sk T L U T) rfl ?_)
  refine g_istore (lv1 := [(0, .ref (a 0 0)), (1, .int (nI k)), (2, .int (dg T nT (k + 1))), (3, .int (dg T nT (k + 2))), (4, .int (dg T nT (k + 3)))]) hX dX_comesToMind_32 (by decide) [1, 2, 3, 4, 0] rfl ?_
  refine g_aload_n hX dX_comesToMind_34 0 rfl ?_
  refine g_get hX 0 rfl rfl 4 (by decide) uu_X q_135 rfl rfl dX_comesToMind_35 ?_
  refine g_iload_n hX dX_comesToMind_38 1 rfl ?_
  refine g_callV hX (con_T_signAt l Z (a 4 0) (fun k => a 4 (k + 1)) T k (by omega) nT hT hT96) mvT_signAt q_274 rfl (by decide) 42 rfl rfl rfl (Nat.le_of_ble_eq_true rfl) dX_comesToMind_39 [42, 43] rfl (subX_4 Z a Sn Sm Sk T L U) (g_fn (ws1 := wX Z a Sn Sm Sk T L U) (st1 := [.int (sg T nT k)]) (putX_4 Z a Sn Sm Sk T L U T) rfl ?_)
  by_cases c_42_107 : (sg T nT k) = 107
  · refine g_tabIn (off := 69) hX 111 dX_comesToMind_42 (by rw [c_42_107]; decide) (by rw [c_42_107]; decide) (by rw [c_42_107]; decide) (by decide) ?_
    refine g_aload_n hX dX_comesToMind_111 0 rfl ?_
    refine g_get hX 0 rfl rfl 1 (by decide) uu_X q_132 rfl rfl dX_comesToMind_112 ?_
    refine g_iload_n hX dX_comesToMind_115 2 rfl ?_
    refine g_iload_n hX dX_comesToMind_116 3 rfl ?_
    refine g_callV hX (con_B_tellLeak l Z (a 2 0) (fun k => a 2 (k + 1)) Sm (dg T nT (k + 1)) (dg T nT (k + 2))) mvB_tellLeak q_286 rfl (by decide) 16 rfl rfl rfl (Nat.le_of_ble_eq_true rfl) dX_comesToMind_117 [16, 17, 18, 19, 20, 21, 22, 23, 24, 25, 26, 27, 28] rfl (subX_2 Z a Sn Sm Sk T L U) (g_fn (ws1 := wX Z a Sn (tellLeakS Sm (dg T nT (k + 1)) (dg T nT (k + 2))) Sk T L U) (st1 := [.int (okLeak (dg T nT (k + 1)) (dg T nT (k + 2)))]) (putX_2 Z a Sn Sm Sk T L U (tellLeakS Sm (dg T nT (k + 1)) (dg T nT (k + 2)))) rfl ?_)
    exact r_zret hX hQ (nar01 (okLeak_01 _ _ )) dX_comesToMind_120 keysX (⟨by simp [stO, hnP, hnL, c_42_107], by rw [show stS T nT Sm k = tellLeakS Sm (dg T nT (k + 1)) (dg T nT (k + 2)) from by simp [stS, hnP, hnL, c_42_107]]⟩)
  by_cases c_42_108 : (sg T nT k) = 108
  · refine g_tabIn (off := 79) hX 121 dX_comesToMind_42 (by rw [c_42_108]; decide) (by rw [c_42_108]; decide) (by rw [c_42_108]; decide) (by decide) ?_
    refine g_aload_n hX dX_comesToMind_121 0 rfl ?_
    refine g_get hX 0 rfl rfl 1 (by decide) uu_X q_132 rfl rfl dX_comesToMind_122 ?_
    refine g_iload_n hX dX_comesToMind_125 2 rfl ?_
    refine g_iload_n hX dX_comesToMind_126 3 rfl ?_
    refine g_iload hX dX_comesToMind_127 4 rfl ?_
    refine g_aload_n hX dX_comesToMind_129 0 rfl ?_
    refine g_get hX 0 rfl rfl 4 (by decide) uu_X q_135 rfl rfl dX_comesToMind_130 ?_
    refine g_iload_n hX dX_comesToMind_133 1 rfl ?_
    refine g_iconst (v := 4) hX dX_comesToMind_134 (by decide) ?_
    refine g_iadd (z := (nI (k + 4))) hX dX_comesToMind_135 (nI_add k 4) ?_
    refine g_callV hX (con_T_digitAt l Z (a 4 0) (fun k => a 4 (k + 1)) T (k + 4) (by omega) nT hT hT96) mvT_digitAt q_273 rfl (by decide) 42 rfl rfl rfl (Nat.le_of_ble_eq_true rfl) dX_comesToMind_136 [42, 43] rfl (subX_4 Z a Sn Sm Sk T L U) (g_fn (ws1 := wX Z a Sn Sm Sk T L U) (st1 := [.int (dg T nT (k + 4)), .int (dg T nT (k + 3)), .int (dg T nT (k + 2)), .int (dg T nT (k + 1)), .ref (a 2 0)]) (putX_4 Z a Sn Sm Sk T L U T) rfl ?_)
    refine g_callV hX (con_B_tellLock l Z (a 2 0) (fun k => a 2 (k + 1)) Sm (dg T nT (k + 1)) (dg T nT (k + 2)) (dg T nT (k + 3)) (dg T nT (k + 4)) nL hL hL7) mvB_tellLock q_290 rfl (by decide) 16 rfl rfl rfl (Nat.le_of_ble_eq_true rfl) dX_comesToMind_139 [16, 17, 18, 19, 20, 21, 22, 23, 24, 25, 26, 27, 28] rfl (subX_2 Z a Sn Sm Sk T L U) (g_fn (ws1 := wX Z a Sn (tellLockS Sm nL (dg T nT (k + 1)) (dg T nT (k + 2)) (dg T nT (k + 3)) (dg T nT (k + 4))) Sk T L U) (st1 := [.int (okLock nL (dg T nT (k + 1)) (dg T nT (k + 2)) (dg T nT (k + 3)) (dg T nT (k + 4)))]) (putX_2 Z a Sn Sm Sk T L U (tellLockS Sm nL (dg T nT (k + 1)) (dg T nT (k + 2)) (dg T nT (k + 3)) (dg T nT (k + 4)))) rfl ?_)
    exact r_zret hX hQ (nar01 (okLock_01 _ _ _ _ _ )) dX_comesToMind_142 keysX (⟨by simp [stO, hnP, hnL, c_42_107, c_42_108], by rw [show stS T nT Sm k = tellLockS Sm nL (dg T nT (k + 1)) (dg T nT (k + 2)) (dg T nT (k + 3)) (dg T nT (k + 4)) from by simp [stS, hnP, hnL, c_42_107, c_42_108]]⟩)
  by_cases c_42_109 : (sg T nT k) = 109
  · refine g_tabIn (off := 145) hX 187 dX_comesToMind_42 (by rw [c_42_109]; decide) (by rw [c_42_109]; decide) (by rw [c_42_109]; decide) (by decide) ?_
    refine g_iconst (v := 0) hX dX_comesToMind_187 (by decide) ?_
    exact r_zret hX hQ (rfl) dX_comesToMind_188 keysX (⟨by simp [stO, hnP, hnL, c_42_107, c_42_108, c_42_109], by rw [show stS T nT Sm k = Sm from by simp [stS, hnP, hnL, c_42_107, c_42_108, c_42_109]]⟩)
  by_cases c_42_110 : (sg T nT k) = 110
  · refine g_tabIn (off := 145) hX 187 dX_comesToMind_42 (by rw [c_42_110]; decide) (by rw [c_42_110]; decide) (by rw [c_42_110]; decide) (by decide) ?_
    refine g_iconst (v := 0) hX dX_comesToMind_187 (by decide) ?_
    exact r_zret hX hQ (rfl) dX_comesToMind_188 keysX (⟨by simp [stO, hnP, hnL, c_42_107, c_42_108, c_42_109, c_42_110], by rw [show stS T nT Sm k = Sm from by simp [stS, hnP, hnL, c_42_107, c_42_108, c_42_109, c_42_110]]⟩)
  by_cases c_42_111 : (sg T nT k) = 111
  · refine g_tabIn (off := 145) hX 187 dX_comesToMind_42 (by rw [c_42_111]; decide) (by rw [c_42_111]; decide) (by rw [c_42_111]; decide) (by decide) ?_
    refine g_iconst (v := 0) hX dX_comesToMind_187 (by decide) ?_
    exact r_zret hX hQ (rfl) dX_comesToMind_188 keysX (⟨by simp [stO, hnP, hnL, c_42_107, c_42_108, c_42_109, c_42_110, c_42_111], by rw [show stS T nT Sm k = Sm from by simp [stS, hnP, hnL, c_42_107, c_42_108, c_42_109, c_42_110, c_42_111]]⟩)
  by_cases c_42_112 : (sg T nT k) = 112
  · refine g_tabIn (off := 101) hX 143 dX_comesToMind_42 (by rw [c_42_112]; decide) (by rw [c_42_112]; decide) (by rw [c_42_112]; decide) (by decide) ?_
    refine g_aload_n hX dX_comesToMind_143 0 rfl ?_
    refine g_get hX 0 rfl rfl 1 (by decide) uu_X q_132 rfl rfl dX_comesToMind_144 ?_
    refine g_aload_n hX dX_comesToMind_147 0 rfl ?_
    refine g_get hX 0 rfl rfl 4 (by decide) uu_X q_135 rfl rfl dX_comesToMind_148 ?_
    refine g_iload_n hX dX_comesToMind_151 1 rfl ?_
    refine g_iconst (v := 1) hX dX_comesToMind_152 (by decide) ?_
    refine g_iadd (z := (nI (k + 1))) hX dX_comesToMind_153 (nI_add k 1) ?_
    refine g_callV hX (con_T_signAt l Z (a 4 0) (fun k => a 4 (k + 1)) T (k + 1) (by omega) nT hT hT96) mvT_signAt q_274 rfl (by decide) 42 rfl rfl rfl (Nat.le_of_ble_eq_true rfl) dX_comesToMind_154 [42, 43] rfl (subX_4 Z a Sn Sm Sk T L U) (g_fn (ws1 := wX Z a Sn Sm Sk T L U) (st1 := [.int (sg T nT (k + 1)), .ref (a 2 0)]) (putX_4 Z a Sn Sm Sk T L U T) rfl ?_)
    refine g_callS hX (con_X_kindOf l Z (sg T nT (k + 1))) msX_kindOf q_303 rfl (by decide) rfl (Nat.le_of_ble_eq_true rfl) dX_comesToMind_157 [] rfl (rfl) (g_fn (ws1 := wX Z a Sn Sm Sk T L U) (st1 := [.int (kindOfS (sg T nT (k + 1))), .ref (a 2 0)]) (rfl) rfl ?_)
    refine g_iload_n hX dX_comesToMind_160 3 rfl ?_
    refine g_iload hX dX_comesToMind_161 4 rfl ?_
    refine g_aload_n hX dX_comesToMind_163 0 rfl ?_
    refine g_get hX 0 rfl rfl 4 (by decide) uu_X q_135 rfl rfl dX_comesToMind_164 ?_
    refine g_iload_n hX dX_comesToMind_167 1 rfl ?_
    refine g_iconst (v := 5) hX dX_comesToMind_168 (by decide) ?_
    refine g_iadd (z := (nI (k + 5))) hX dX_comesToMind_169 (nI_add k 5) ?_
    refine g_callV hX (con_T_numberAt l Z (a 4 0) (fun k => a 4 (k + 1)) T (k + 5) (by omega) nT hT hT96) mvT_numberAt q_275 rfl (by decide) 42 rfl rfl rfl (Nat.le_of_ble_eq_true rfl) dX_comesToMind_170 [42, 43] rfl (subX_4 Z a Sn Sm Sk T L U) (g_fn (ws1 := wX Z a Sn Sm Sk T L U) (st1 := [.int (nmb T nT (k + 5)), .int (dg T nT (k + 3)), .int (dg T nT (k + 2)), .int (kindOfS (sg T nT (k + 1))), .ref (a 2 0)]) (putX_4 Z a Sn Sm Sk T L U T) rfl ?_)
    refine g_callV hX (con_B_tellPerson l Z (a 2 0) (fun k => a 2 (k + 1)) Sm (kindOfS (sg T nT (k + 1))) (dg T nT (k + 2)) (dg T nT (k + 3)) (nmb T nT (k + 5)) nP hP hP5) mvB_tellPerson q_304 rfl (by decide) 16 rfl rfl rfl (Nat.le_of_ble_eq_true rfl) dX_comesToMind_173 [16, 17, 18, 19, 20, 21, 22, 23, 24, 25, 26, 27, 28] rfl (subX_2 Z a Sn Sm Sk T L U) (g_fn (ws1 := wX Z a Sn (tellPersonS Sm nP (kindOfS (sg T nT (k + 1))) (dg T nT (k + 2)) (dg T nT (k + 3)) (nmb T nT (k + 5))) Sk T L U) (st1 := [.int (okPerson nP (kindOfS (sg T nT (k + 1))) (dg T nT (k + 2)) (dg T nT (k + 3)) (nmb T nT (k + 5)))]) (putX_2 Z a Sn Sm Sk T L U (tellPersonS Sm nP (kindOfS (sg T nT (k + 1))) (dg T nT (k + 2)) (dg T nT (k + 3)) (nmb T nT (k + 5)))) rfl ?_)
    exact r_zret hX hQ (nar01 (okPerson_01 _ _ _ _ _ )) dX_comesToMind_176 keysX (⟨by simp [stO, hnP, hnL, c_42_107, c_42_108, c_42_109, c_42_110, c_42_111, c_42_112], by rw [show stS T nT Sm k = tellPersonS Sm nP (kindOfS (sg T nT (k + 1))) (dg T nT (k + 2)) (dg T nT (k + 3)) (nmb T nT (k + 5)) from by simp [stS, hnP, hnL, c_42_107, c_42_108, c_42_109, c_42_110, c_42_111, c_42_112]]⟩)
  by_cases c_42_113 : (sg T nT k) = 113
  · refine g_tabIn (off := 145) hX 187 dX_comesToMind_42 (by rw [c_42_113]; decide) (by rw [c_42_113]; decide) (by rw [c_42_113]; decide) (by decide) ?_
    refine g_iconst (v := 0) hX dX_comesToMind_187 (by decide) ?_
    exact r_zret hX hQ (rfl) dX_comesToMind_188 keysX (⟨by simp [stO, hnP, hnL, c_42_107, c_42_108, c_42_109, c_42_110, c_42_111, c_42_112, c_42_113], by rw [show stS T nT Sm k = Sm from by simp [stS, hnP, hnL, c_42_107, c_42_108, c_42_109, c_42_110, c_42_111, c_42_112, c_42_113]]⟩)
  by_cases c_42_114 : (sg T nT k) = 114
  · refine g_tabIn (off := 50) hX 92 dX_comesToMind_42 (by rw [c_42_114]; decide) (by rw [c_42_114]; decide) (by rw [c_42_114]; decide) (by decide) ?_
    refine g_aload_n hX dX_comesToMind_92 0 rfl ?_
    refine g_get hX 0 rfl rfl 1 (by decide) uu_X q_132 rfl rfl dX_comesToMind_93 ?_
    refine g_iload_n hX dX_comesToMind_96 2 rfl ?_
    refine g_aload_n hX dX_comesToMind_97 0 rfl ?_
    refine g_get hX 0 rfl rfl 4 (by decide) uu_X q_135 rfl rfl dX_comesToMind_98 ?_
    refine g_iload_n hX dX_comesToMind_101 1 rfl ?_
    refine g_iconst (v := 3) hX dX_comesToMind_102 (by decide) ?_
    refine g_iadd (z := (nI (k + 3))) hX dX_comesToMind_103 (nI_add k 3) ?_
    refine g_callV hX (con_T_numberAt l Z (a 4 0) (fun k => a 4 (k + 1)) T (k + 3) (by omega) nT hT hT96) mvT_numberAt q_275 rfl (by decide) 42 rfl rfl rfl (Nat.le_of_ble_eq_true rfl) dX_comesToMind_104 [42, 43] rfl (subX_4 Z a Sn Sm Sk T L U) (g_fn (ws1 := wX Z a Sn Sm Sk T L U) (st1 := [.int (nmb T nT (k + 3)), .int (dg T nT (k + 1)), .ref (a 2 0)]) (putX_4 Z a Sn Sm Sk T L U T) rfl ?_)
    refine g_callV hX (con_B_tellAir l Z (a 2 0) (fun k => a 2 (k + 1)) Sm (dg T nT (k + 1)) (nmb T nT (k + 3))) mvB_tellAir q_279 rfl (by decide) 16 rfl rfl rfl (Nat.le_of_ble_eq_true rfl) dX_comesToMind_107 [16, 17, 18, 19, 20, 21, 22, 23, 24, 25, 26, 27, 28] rfl (subX_2 Z a Sn Sm Sk T L U) (g_fn (ws1 := wX Z a Sn (tellAirS Sm (dg T nT (k + 1)) (nmb T nT (k + 3))) Sk T L U) (st1 := [.int (okAir (dg T nT (k + 1)) (nmb T nT (k + 3)))]) (putX_2 Z a Sn Sm Sk T L U (tellAirS Sm (dg T nT (k + 1)) (nmb T nT (k + 3)))) rfl ?_)
    exact r_zret hX hQ (nar01 (okAir_01 _ _ )) dX_comesToMind_110 keysX (⟨by simp [stO, hnP, hnL, c_42_107, c_42_108, c_42_109, c_42_110, c_42_111, c_42_112, c_42_113, c_42_114], by rw [show stS T nT Sm k = tellAirS Sm (dg T nT (k + 1)) (nmb T nT (k + 3)) from by simp [stS, hnP, hnL, c_42_107, c_42_108, c_42_109, c_42_110, c_42_111, c_42_112, c_42_113, c_42_114]]⟩)
  by_cases c_42_115 : (sg T nT k) = 115
  · refine g_tabIn (off := 135) hX 177 dX_comesToMind_42 (by rw [c_42_115]; decide) (by rw [c_42_115]; decide) (by rw [c_42_115]; decide) (by decide) ?_
    refine g_aload_n hX dX_comesToMind_177 0 rfl ?_
    refine g_get hX 0 rfl rfl 1 (by decide) uu_X q_132 rfl rfl dX_comesToMind_178 ?_
    refine g_iload_n hX dX_comesToMind_181 2 rfl ?_
    refine g_iload_n hX dX_comesToMind_182 3 rfl ?_
    refine g_callV hX (con_B_tellSuits l Z (a 2 0) (fun k => a 2 (k + 1)) Sm (dg T nT (k + 1)) (dg T nT (k + 2))) mvB_tellSuits q_308 rfl (by decide) 16 rfl rfl rfl (Nat.le_of_ble_eq_true rfl) dX_comesToMind_183 [16, 17, 18, 19, 20, 21, 22, 23, 24, 25, 26, 27, 28] rfl (subX_2 Z a Sn Sm Sk T L U) (g_fn (ws1 := wX Z a Sn (tellSuitsS Sm (dg T nT (k + 1)) (dg T nT (k + 2))) Sk T L U) (st1 := [.int (okSuits (dg T nT (k + 1)) (dg T nT (k + 2)))]) (putX_2 Z a Sn Sm Sk T L U (tellSuitsS Sm (dg T nT (k + 1)) (dg T nT (k + 2)))) rfl ?_)
    exact r_zret hX hQ (nar01 (okSuits_01 _ _ )) dX_comesToMind_186 keysX (⟨by simp [stO, hnP, hnL, c_42_107, c_42_108, c_42_109, c_42_110, c_42_111, c_42_112, c_42_113, c_42_114, c_42_115], by rw [show stS T nT Sm k = tellSuitsS Sm (dg T nT (k + 1)) (dg T nT (k + 2)) from by simp [stS, hnP, hnL, c_42_107, c_42_108, c_42_109, c_42_110, c_42_111, c_42_112, c_42_113, c_42_114, c_42_115]]⟩)
  refine g_tabOut hX 187 dX_comesToMind_42 (by have := ne_toInt c_42_107 (z := 107) (by decide); have := ne_toInt c_42_108 (z := 108) (by decide); have := ne_toInt c_42_109 (z := 109) (by decide); have := ne_toInt c_42_110 (z := 110) (by decide); have := ne_toInt c_42_111 (z := 111) (by decide); have := ne_toInt c_42_112 (z := 112) (by decide); have := ne_toInt c_42_113 (z := 113) (by decide); have := ne_toInt c_42_114 (z := 114) (by decide); have := ne_toInt c_42_115 (z := 115) (by decide); omega) (by decide) ?_
  refine g_iconst (v := 0) hX dX_comesToMind_187 (by decide) ?_
  exact r_zret hX hQ (rfl) dX_comesToMind_188 keysX (⟨by simp [stO, hnP, hnL, c_42_107, c_42_108, c_42_109, c_42_110, c_42_111, c_42_112, c_42_113, c_42_114, c_42_115], by rw [show stS T nT Sm k = Sm from by simp [stS, hnP, hnL, c_42_107, c_42_108, c_42_109, c_42_110, c_42_111, c_42_112, c_42_113, c_42_114, c_42_115]]⟩)
set_option maxHeartbeats 400000 in
set_option maxRecDepth 20000 in
theorem con_X_readBurrow (l : Launch) (Z : ZZ) (a : Nat → Nat → Nat) (Sn Sm Sk T L U : St) (nP nL : Nat) (hP : Sn 12 1 = nI nP) (hP5 : nP ≤ 5) (hL : Sn 12 0 = nI nL) (hL7 : nL ≤ 7) (nT : Nat) (hT : T 1 0 = nI nT) (hT96 : nT ≤ 96) : Con l Z yX_readBurrow cX_readBurrow 4 (some .int) 6 [.ref (a 0 0)] (wX Z a Sn Sm Sk T L U) (XP Z a (xf_read Sn Sk T U nT)) := by
  refine Con.of (by decide) (Nat.le_of_ble_eq_true rfl) (fun X hX hQ => ?_)
  show G X Z (wX Z a Sn Sm Sk T L U) 0 [(0, .ref (a 0 0))] []
  refine g_aload_n hX dX_readBurrow_0 0 rfl ?_
  refine g_get hX 0 rfl rfl 4 (by decide) uu_X q_135 rfl rfl dX_readBurrow_1 ?_
  refine g_callV hX (con_T_misformedAt l Z (a 4 0) (fun k => a 4 (k + 1)) T nT hT hT96) mvT_misformedAt q_179 rfl (by decide) 42 rfl rfl rfl (Nat.le_of_ble_eq_true rfl) dX_readBurrow_4 [42, 43] rfl (subX_4 Z a Sn Sm Sk T L U) (g_fn (ws1 := wX Z a Sn Sm Sk T L U) (st1 := [.int (mf T nT)]) (putX_4 Z a Sn Sm Sk T L U T) rfl ?_)
  refine g_istore_n (lv1 := [(0, .ref (a 0 0)), (1, .int (mf T nT))]) hX dX_readBurrow_7 (by decide) [1, 0] rfl ?_
  refine g_iload_n hX dX_readBurrow_8 1 rfl ?_
  refine g_if_lt hX 18 dX_readBurrow_9 (by decide) (fun c_9 => ?_) (fun c_9 => ?_)
  · refine g_aload_n hX dX_readBurrow_18 0 rfl ?_
    refine g_get hX 0 rfl rfl 1 (by decide) uu_X q_132 rfl rfl dX_readBurrow_19 ?_
    refine g_aload_n hX dX_readBurrow_22 0 rfl ?_
    refine g_get hX 0 rfl rfl 0 (by decide) uu_X q_131 rfl rfl dX_readBurrow_23 ?_
    refine g_callV hX (con_B_become l Z (a 2 0) (fun k => a 2 (k + 1)) Sm (a 1 0) (fun k => a 1 (k + 1)) Sn) mvB_become q_262 rfl (by decide) 16 rfl rfl rfl (Nat.le_of_ble_eq_true rfl) dX_readBurrow_26 [16, 17, 18, 19, 20, 21, 22, 23, 24, 25, 26, 27, 28, 3, 4, 5, 6, 7, 8, 9, 10, 11, 12, 13, 14, 15] rfl (subX_2_1 Z a Sn Sm Sk T L U) (g_fn (ws1 := wX Z a Sn Sn Sk T L U) (st1 := []) (putX_2_1 Z a Sn Sm Sk T L U Sn Sn) rfl ?_)
    refine g_iconst (v := 0) hX dX_readBurrow_29 (by decide) ?_
    refine g_istore_n (lv1 := [(0, .ref (a 0 0)), (1, .int (mf T nT)), (2, .int 0)]) hX dX_readBurrow_30 (by decide) [1, 2, 0] rfl ?_
    refine g_iconst (v := 0) hX dX_readBurrow_31 (by decide) ?_
    refine g_istore_n (lv1 := [(0, .ref (a 0 0)), (1, .int (mf T nT)), (2, .int 0), (3, .int 0)]) hX dX_readBurrow_32 (by decide) [1, 2, 3, 0] rfl ?_
    have hL_33 : ∀ i0, i0 ≤ 96 → ∀ (a0 : Nat) (V0 : St), MB V0 ∧ rdL T nT Sn (96 - i0) a0 V0 = rdL T nT Sn 96 0 Sn ∧ (nT ≤ a0 ∨ mfL T nT (96 - i0) a0 = mf T nT) ∧ a0 < 2 ^ 31 → G X Z (wX Z a Sn V0 Sk T L U) 33 [(0, .ref (a 0 0)), (1, .int (mf T nT)), (2, .int (nI a0)), (3, .int (nI i0))] [] := by
      refine loopUp _ 96 ?_ (fun i0 hi_i0 ih_i0 => ?_)
      · intro a0 V0 hq_i0
        refine g_iload_n hX dX_readBurrow_33 2 rfl ?_
        refine g_aload_n hX dX_readBurrow_34 0 rfl ?_
        refine g_get hX 0 rfl rfl 4 (by decide) uu_X q_135 rfl rfl dX_readBurrow_35 ?_
        refine g_get hX 42 rfl rfl 1 (by decide) uu_T q_109 rfl rfl dX_readBurrow_38 ?_
        refine g_top (y := (nI nT)) (hT) ?_
        refine g_icmp_ge hX 79 dX_readBurrow_41 (by decide) (fun c_41 => ?_) (fun c_41 => ?_)
        · refine g_aload_n hX dX_readBurrow_79 0 rfl ?_
          refine g_get hX 0 rfl rfl 0 (by decide) uu_X q_131 rfl rfl dX_readBurrow_80 ?_
          refine g_aload_n hX dX_readBurrow_83 0 rfl ?_
          refine g_get hX 0 rfl rfl 1 (by decide) uu_X q_132 rfl rfl dX_readBurrow_84 ?_
          refine g_callV hX (con_B_become l Z (a 1 0) (fun k => a 1 (k + 1)) Sn (a 2 0) (fun k => a 2 (k + 1)) V0) mvB_become q_262 rfl (by decide) 3 rfl rfl rfl (Nat.le_of_ble_eq_true rfl) dX_readBurrow_87 [3, 4, 5, 6, 7, 8, 9, 10, 11, 12, 13, 14, 15, 16, 17, 18, 19, 20, 21, 22, 23, 24, 25, 26, 27, 28] rfl (subX_1_2 Z a Sn V0 Sk T L U) (g_fn (ws1 := wX Z a V0 V0 Sk T L U) (st1 := []) (putX_1_2 Z a Sn V0 Sk T L U V0 V0) rfl ?_)
          refine g_iload_n hX dX_readBurrow_90 3 rfl ?_
          exact r_iret hX hQ dX_readBurrow_91 keysX (by have e7 : rdL T nT Sn 96 0 Sn = (nI 96, V0) := (by rw [← hq_i0.2.1, Nat.sub_self]; rfl); rw [show xf_read Sn Sk T U nT = ((nI 96), V0, Sk, T, U) from by rw [xf_read, if_pos c_9, e7]]; exact XP_mk)
        · refine g_iload_n hX dX_readBurrow_44 3 rfl ?_
          refine g_bipush (v := 96) hX dX_readBurrow_45 (by decide) ?_
          refine g_icmp_ge hX 79 dX_readBurrow_47 (by decide) (fun c_47 => ?_) (fun c_47 => absurd (nI_le (a := 96) (b := 96) (Nat.le_refl _) (by omega)) c_47)
          refine g_aload_n hX dX_readBurrow_79 0 rfl ?_
          refine g_get hX 0 rfl rfl 0 (by decide) uu_X q_131 rfl rfl dX_readBurrow_80 ?_
          refine g_aload_n hX dX_readBurrow_83 0 rfl ?_
          refine g_get hX 0 rfl rfl 1 (by decide) uu_X q_132 rfl rfl dX_readBurrow_84 ?_
          refine g_callV hX (con_B_become l Z (a 1 0) (fun k => a 1 (k + 1)) Sn (a 2 0) (fun k => a 2 (k + 1)) V0) mvB_become q_262 rfl (by decide) 3 rfl rfl rfl (Nat.le_of_ble_eq_true rfl) dX_readBurrow_87 [3, 4, 5, 6, 7, 8, 9, 10, 11, 12, 13, 14, 15, 16, 17, 18, 19, 20, 21, 22, 23, 24, 25, 26, 27, 28] rfl (subX_1_2 Z a Sn V0 Sk T L U) (g_fn (ws1 := wX Z a V0 V0 Sk T L U) (st1 := []) (putX_1_2 Z a Sn V0 Sk T L U V0 V0) rfl ?_)
          refine g_iload_n hX dX_readBurrow_90 3 rfl ?_
          exact r_iret hX hQ dX_readBurrow_91 keysX (by have e7 : rdL T nT Sn 96 0 Sn = (nI 96, V0) := (by rw [← hq_i0.2.1, Nat.sub_self]; rfl); rw [show xf_read Sn Sk T U nT = ((nI 96), V0, Sk, T, U) from by rw [xf_read, if_pos c_9, e7]]; exact XP_mk)
      · intro a0 V0 hq_i0
        refine g_iload_n hX dX_readBurrow_33 2 rfl ?_
        refine g_aload_n hX dX_readBurrow_34 0 rfl ?_
        refine g_get hX 0 rfl rfl 4 (by decide) uu_X q_135 rfl rfl dX_readBurrow_35 ?_
        refine g_get hX 42 rfl rfl 1 (by decide) uu_T q_109 rfl rfl dX_readBurrow_38 ?_
        refine g_top (y := (nI nT)) (hT) ?_
        refine g_icmp_ge hX 79 dX_readBurrow_41 (by decide) (fun c_41 => ?_) (fun c_41 => ?_)
        · refine g_aload_n hX dX_readBurrow_79 0 rfl ?_
          refine g_get hX 0 rfl rfl 0 (by decide) uu_X q_131 rfl rfl dX_readBurrow_80 ?_
          refine g_aload_n hX dX_readBurrow_83 0 rfl ?_
          refine g_get hX 0 rfl rfl 1 (by decide) uu_X q_132 rfl rfl dX_readBurrow_84 ?_
          refine g_callV hX (con_B_become l Z (a 1 0) (fun k => a 1 (k + 1)) Sn (a 2 0) (fun k => a 2 (k + 1)) V0) mvB_become q_262 rfl (by decide) 3 rfl rfl rfl (Nat.le_of_ble_eq_true rfl) dX_readBurrow_87 [3, 4, 5, 6, 7, 8, 9, 10, 11, 12, 13, 14, 15, 16, 17, 18, 19, 20, 21, 22, 23, 24, 25, 26, 27, 28] rfl (subX_1_2 Z a Sn V0 Sk T L U) (g_fn (ws1 := wX Z a V0 V0 Sk T L U) (st1 := []) (putX_1_2 Z a Sn V0 Sk T L U V0 V0) rfl ?_)
          refine g_iload_n hX dX_readBurrow_90 3 rfl ?_
          exact r_iret hX hQ dX_readBurrow_91 keysX (by have e7 : rdL T nT Sn 96 0 Sn = (nI i0, V0) := (by rw [← hq_i0.2.1, show 96 - i0 = (96 - (i0 + 1)) + 1 by omega, rdL, if_pos c_41, show 96 - (96 - (i0 + 1) + 1) = i0 by omega]); rw [show xf_read Sn Sk T U nT = ((nI i0), V0, Sk, T, U) from by rw [xf_read, if_pos c_9, e7]]; exact XP_mk)
        · refine g_iload_n hX dX_readBurrow_44 3 rfl ?_
          refine g_bipush (v := 96) hX dX_readBurrow_45 (by decide) ?_
          refine g_icmp_ge hX 79 dX_readBurrow_47 (by decide) (fun c_47 => absurd c_47 (nI_ge (a := i0) (b := 96) hi_i0 (by omega))) (fun c_47 => ?_)
          refine g_aload_n hX dX_readBurrow_50 0 rfl ?_
          refine g_iload_n hX dX_readBurrow_51 2 rfl ?_
          refine g_callV hX (con_X_comesToMind l Z a Sn V0 Sk T L U a0 (by have := lt_of_n hT96 hq_i0.2.2.2 c_41; omega) hq_i0.1 nT hT hT96) mvX_comesToMind q_269 rfl (by decide) 0 rfl rfl rfl (Nat.le_of_ble_eq_true rfl) dX_readBurrow_52 [0, 1, 2, 3, 4, 5, 6, 7, 8, 9, 10, 11, 12, 13, 14, 15, 16, 17, 18, 19, 20, 21, 22, 23, 24, 25, 26, 27, 28, 29, 30, 31, 32, 33, 34, 35, 36, 37, 38, 39, 40, 41, 42, 43, 44, 45, 46, 47, 48, 49, 50, 51, 52, 53] rfl (subX_all Z a Sn V0 Sk T L U) (g_fn (ws1 := wX Z a Sn (stS T nT V0 a0) Sk T L U) (st1 := [.int (stO T nT V0 a0)]) (putX_all Z a Sn V0 Sk T L U Sn (stS T nT V0 a0) Sk T L U) rfl ?_)
          refine g_if_ne hX 64 dX_readBurrow_55 (by decide) (fun c_55 => ?_) (fun c_55 => ?_)
          · refine g_aload_n hX dX_readBurrow_64 0 rfl ?_
            refine g_get hX 0 rfl rfl 4 (by decide) uu_X q_135 rfl rfl dX_readBurrow_65 ?_
            refine g_iload_n hX dX_readBurrow_68 2 rfl ?_
            refine g_callV hX (con_T_behindStatement l Z (a 4 0) (fun k => a 4 (k + 1)) T a0 (by have := lt_of_n hT96 hq_i0.2.2.2 c_41; omega) nT hT hT96) mvT_behindStatement q_312 rfl (by decide) 42 rfl rfl rfl (Nat.le_of_ble_eq_true rfl) dX_readBurrow_69 [42, 43] rfl (subX_4 Z a Sn (stS T nT V0 a0) Sk T L U) (g_fn (ws1 := wX Z a Sn (stS T nT V0 a0) Sk T L U) (st1 := [.int (bs T nT a0)]) (putX_4 Z a Sn (stS T nT V0 a0) Sk T L U T) rfl ?_)
            have hlt := lt_of_n hT96 hq_i0.2.2.2 c_41
            have hnx := rd_next (r := 96 - (i0 + 1)) hT96 c_9 (by rw [show 96 - (i0 + 1) + 1 = 96 - i0 by omega]; exact hq_i0.2.2.1.resolve_left (by omega))
            refine g_top (y := (nI (cl (bs T nT a0)))) hnx.1 ?_
            refine g_istore_n (lv1 := [(0, .ref (a 0 0)), (1, .int (mf T nT)), (2, .int (nI (cl (bs T nT a0)))), (3, .int (nI i0))]) hX dX_readBurrow_72 (by decide) [1, 2, 0, 3] rfl ?_
            refine g_iinc (v := (nI (i0 + 1))) (lv1 := [(0, .ref (a 0 0)), (1, .int (mf T nT)), (2, .int (nI (cl (bs T nT a0)))), (3, .int (nI (i0 + 1)))]) hX dX_readBurrow_73 3 rfl (inc_nat _) (by decide) [1, 2, 3, 0] rfl ?_
            refine g_goto hX 33 dX_readBurrow_76 (by decide) ?_
            exact ih_i0 (cl (bs T nT a0)) (stS T nT V0 a0) (⟨hq_i0.1.st, by rw [← hq_i0.2.1, show 96 - i0 = (96 - (i0 + 1)) + 1 by omega, rdL, if_neg c_41, if_pos c_55], hnx.2.2, hnx.2.1⟩)
          · refine g_sipush (v := (-2000)) hX dX_readBurrow_58 (by decide) ?_
            refine g_iload_n hX dX_readBurrow_61 2 rfl ?_
            refine g_isub (z := ((-2000) - (nI a0))) hX dX_readBurrow_62 (rfl) ?_
            exact r_iret hX hQ dX_readBurrow_63 keysX (by have e7 : rdL T nT Sn 96 0 Sn = (-2000 - nI a0, Sn) := (by rw [← hq_i0.2.1, show 96 - i0 = (96 - (i0 + 1)) + 1 by omega, rdL, if_neg c_41, if_neg (fun q => q c_55)]); rw [show xf_read Sn Sk T U nT = (((-2000) - (nI a0)), Sn, Sk, T, U) from by rw [xf_read, if_pos c_9, e7]]; exact XP_mk)
    exact hL_33 0 (Nat.zero_le _) 0 Sn (⟨MB.of hP hP5 hL hL7, rfl, Or.inr rfl, by decide⟩)
  · refine g_sipush (v := (-1000)) hX dX_readBurrow_12 (by decide) ?_
    refine g_iload_n hX dX_readBurrow_15 1 rfl ?_
    refine g_isub (z := ((-1000) - (mf T nT))) hX dX_readBurrow_16 (rfl) ?_
    exact r_iret hX hQ dX_readBurrow_17 keysX (by rw [show xf_read Sn Sk T U nT = (((-1000) - (mf T nT)), Sn, Sk, T, U) from by simp [xf_read, c_9]]; exact XP_mk)
set_option maxHeartbeats 400000 in
set_option maxRecDepth 20000 in
theorem con_X_burrow (l : Launch) (Z : ZZ) (a : Nat → Nat → Nat) (Sn Sm Sk T L U : St) (nP nL : Nat) (hP : Sn 12 1 = nI nP) (hP5 : nP ≤ 5) (hL : Sn 12 0 = nI nL) (hL7 : nL ≤ 7) (nT : Nat) (hT : T 1 0 = nI nT) (hT96 : nT ≤ 96) : Con l Z yX_burrow cX_burrow 2 (some .int) 7 [.ref (a 0 0)] (wX Z a Sn Sm Sk T L U) (XP Z a (xf_burrow Sn Sk T U nT)) := by
  refine Con.of (by decide) (Nat.le_of_ble_eq_true rfl) (fun X hX hQ => ?_)
  show G X Z (wX Z a Sn Sm Sk T L U) 0 [(0, .ref (a 0 0))] []
  refine g_aload_n hX dX_burrow_0 0 rfl ?_
  refine g_callV hX (con_X_readBurrow l Z a Sn Sm Sk T L U nP nL hP hP5 hL hL7 nT hT hT96) mvX_readBurrow q_175 rfl (by decide) 0 rfl rfl rfl (Nat.le_of_ble_eq_true rfl) dX_burrow_1 [0, 1, 2, 3, 4, 5, 6, 7, 8, 9, 10, 11, 12, 13, 14, 15, 16, 17, 18, 19, 20, 21, 22, 23, 24, 25, 26, 27, 28, 29, 30, 31, 32, 33, 34, 35, 36, 37, 38, 39, 40, 41, 42, 43, 44, 45, 46, 47, 48, 49, 50, 51, 52, 53] rfl (subX_all Z a Sn Sm Sk T L U) (fun v w hp => ?_)
  obtain ⟨rfl, Sm1, L1, rfl⟩ := hp
  have eR := xf_read_rest Sn Sk T U nT
  refine g_eq (ws1 := wX Z a ((xf_read Sn Sk T U nT).2.1) Sm1 Sk T L1 U) (st1 := [.int (xf_read Sn Sk T U nT).1]) ((putX_all Z a Sn Sm Sk T L U _ _ _ _ _ _).trans (by rw [eR])) rfl rfl ?_
  refine g_istore_n (lv1 := [(0, .ref (a 0 0)), (1, .int (xf_read Sn Sk T U nT).1)]) hX dX_burrow_4 (by decide) [1, 0] rfl ?_
  refine g_aload_n hX dX_burrow_5 0 rfl ?_
  refine g_get hX 0 rfl rfl 4 (by decide) uu_X q_135 rfl rfl dX_burrow_6 ?_
  refine g_iconst (v := 0) hX dX_burrow_9 (by decide) ?_
  refine g_put (ws1 := wX Z a ((xf_read Sn Sk T U nT).2.1) Sm1 Sk (sw T 1 0 0) L1 U) hX 42 rfl rfl 1 (by decide) uu_T tyF_T tyF_T_ok nmF_T q_109 rfl rfl rfl rfl rfl (Nat.le_of_ble_eq_true rfl) dX_burrow_10 (fldX_T_1_0 Z a ((xf_read Sn Sk T U nT).2.1) Sm1 Sk T L1 U 0) ?_
  refine g_iload_n hX dX_burrow_13 1 rfl ?_
  exact r_iret hX hQ dX_burrow_14 keysX (by unfold xf_burrow; exact XP_mk)
