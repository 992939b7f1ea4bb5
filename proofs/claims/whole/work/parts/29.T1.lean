/-! the Text: letters and statements -/
def sg (S : St) (nT k : Nat) : Int32 := if nT ≤ k then -1 else S 0 k
def dg (S : St) (nT k : Nat) : Int32 := if sg S nT k < 48 then -1 else if 57 < sg S nT k then -1 else sg S nT k - 48
def nmb (S : St) (nT k : Nat) : Int32 := if dg S nT (k + 1) < 0 then dg S nT k else if dg S nT (k + 2) < 0 then 10 * dg S nT k + dg S nT (k + 1) else 10 * (10 * dg S nT k + dg S nT (k + 1)) + dg S nT (k + 2)
def shp (x : Int32) : Nat := if x = 107 then 1 else if x = 108 then 2 else if x = 112 then 3 else if x = 114 then 0 else if x = 115 then 1 else 4
theorem shp_lt (x : Int32) : shp x < 6 := by unfold shp; repeat' split <;> try omega
def dueS (S : St) (nT : Nat) (c : Int32) (k : Nat) : Int32 := if c = 35 then (if dg S nT k < 0 then 0 else 1) else if c = 63 then (if dg S nT k < 0 then 0 else 1) else if c = 64 then (if kindOfS (sg S nT k) < 0 then 0 else 1) else if ¬ sg S nT k = c then 0 else 1
def bsL (S : St) (nT sh : Nat) : Nat → Nat → Nat → Int32
  | 0, _, k => nI k
  | r + 1, i, k => if dueS S nT (sch sh i) k = 0 then (if sch sh i = 63 then bsL S nT sh r (i + 1) k else -1 - nI k) else bsL S nT sh r (i + 1) (k + 1)
/-- the place behind the statement, or -1 less the place of the letter that is none of one -/
def bs (S : St) (nT k : Nat) : Int32 := if semp (shp (sg S nT k)) = 0 then bsL S nT (shp (sg S nT k)) (sLen.getD (shp (sg S nT k)) 0) 0 (k + 1) else -1 - nI k
/-- as many statements as that from a place on, at most -/
def mfL (S : St) (nT : Nat) : Nat → Nat → Int32
  | 0, a => nI a
  | r + 1, a => if 0 ≤ bs S nT a then (if bs S nT a < nI nT then mfL S nT r (cl (bs S nT a)) else -1) else -1 - bs S nT a
def mf (S : St) (nT : Nat) : Int32 := mfL S nT 96 0
theorem bs_nat {x : Int32} {nT : Nat} (hT96 : nT ≤ 96) (h0 : 0 ≤ x) (h1 : x < nI nT) : x = nI (cl x) ∧ cl x < nT := by
  obtain ⟨j, hj, rfl⟩ := nI_of (Int32.not_lt.mpr h0)
  rw [nI_ltI hj (by omega)] at h1
  rw [show cl (nI j) = j from nI_clamp hj]
  exact ⟨rfl, h1⟩
theorem sg_out {S : St} {nT k : Nat} (hT96 : nT ≤ 96) (hk : k < 2 ^ 31) (h : nI nT ≤ nI k) : sg S nT k = -1 := if_pos ((nI_leI (by omega) hk).mp h)
theorem sg_in {S : St} {nT k : Nat} (hT96 : nT ≤ 96) (hk : k < 2 ^ 31) (h : ¬ nI nT ≤ nI k) : sg S nT k = S 0 k := if_neg (fun q => h ((nI_leI (by omega) hk).mpr q))
theorem lt_of_n {nT k : Nat} (hT96 : nT ≤ 96) (hk : k < 2 ^ 31) (h : ¬ nI nT ≤ nI k) : k < nT := Nat.lt_of_not_le (fun q => h ((nI_leI (by omega) hk).mpr q))
def addT (S : St) (nT : Nat) (c : Int32) : St := sw (sw S 0 nT c) 1 0 (nI (nT + 1))
theorem sLen9 : ∀ i, i < 6 → sLen.getD i 0 ≤ 7 := by decide
set_option maxHeartbeats 4000000 in
set_option maxRecDepth 20000 in
theorem con_T_add (l : Launch) (Z : ZZ) (h : Nat) (q : Nat → Nat) (S : St) (c : Int32) (nT : Nat) (hT : S 1 0 = nI nT) (hn96 : nT < 96) : Con l Z yT_add cT_add 2 none 0 [.ref h, .int c] (wT Z h q S) (Fn none (wT Z h q (addT S nT c))) := by
  refine Con.of (by decide) (Nat.le_of_ble_eq_true rfl) (fun X hX hQ => ?_)
  show G X Z (wT Z h q S) 0 [(0, .ref h), (1, .int c)] []
  refine g_aload_n hX dT_add_0 0 rfl ?_
  refine g_get hX 0 rfl rfl 1 (by decide) uu_T q_108 rfl rfl dT_add_1 ?_
  refine g_top (y := (nI nT)) (by first | exact hT | (simp [sw]; exact hT)) ?_
  refine g_bipush (v := 96) hX dT_add_4 (by decide) ?_
  refine g_icmp_ge hX 29 dT_add_6 (by decide) (fun c_6 => absurd c_6 (nI_ge (a := nT) (b := 96) hn96 (by omega))) (fun c_6 => ?_)
  refine g_aload_n hX dT_add_9 0 rfl ?_
  refine g_get hX 0 rfl rfl 0 (by decide) uu_T q_107 rfl rfl dT_add_10 ?_
  refine g_aload_n hX dT_add_13 0 rfl ?_
  refine g_get hX 0 rfl rfl 1 (by decide) uu_T q_108 rfl rfl dT_add_14 ?_
  refine g_top (y := (nI nT)) (by first | exact hT | (simp [sw]; exact hT)) ?_
  refine g_iload_n hX dT_add_17 1 rfl ?_
  refine g_ast (ws1 := wT Z h q (sw S 0 nT c)) hX 1 rfl nT (by omega) (by decide) (rfl) dT_add_18 (setT_S_0 Z h q S nT c) ?_
  refine g_aload_n hX dT_add_19 0 rfl ?_
  refine g_dup hX dT_add_20 rfl ?_
  refine g_get hX 0 rfl rfl 1 (by decide) uu_T q_108 rfl rfl dT_add_21 ?_
  refine g_top (y := (nI nT)) (by first | exact hT | (simp [sw]; exact hT)) ?_
  refine g_iconst (v := 1) hX dT_add_24 (by decide) ?_
  refine g_iadd (z := (nI (nT + 1))) hX dT_add_25 (nI_add nT 1) ?_
  refine g_put (ws1 := wT Z h q (sw (sw S 0 nT c) 1 0 (nI (nT + 1)))) hX 0 rfl rfl 1 (by decide) uu_T tyF_T tyF_T_ok nmF_T q_108 rfl rfl rfl rfl rfl (Nat.le_of_ble_eq_true rfl) dT_add_26 (fldT_S_1_0 Z h q (sw S 0 nT c) (nI (nT + 1))) ?_
  exact r_vret hX hQ dT_add_29 rfl (⟨rfl, rfl⟩)
set_option maxHeartbeats 4000000 in
set_option maxRecDepth 20000 in
theorem con_T_signAt (l : Launch) (Z : ZZ) (h : Nat) (q : Nat → Nat) (S : St) (k : Nat) (hk : k < 2 ^ 31) (nT : Nat) (hT : S 1 0 = nI nT) (hT96 : nT ≤ 96) : Con l Z yT_signAt cT_signAt 2 (some .int) 0 [.ref h, .int (nI k)] (wT Z h q S) (Fn (some (.int (sg S nT k))) (wT Z h q S)) := by
  refine Con.of (by decide) (Nat.le_of_ble_eq_true rfl) (fun X hX hQ => ?_)
  show G X Z (wT Z h q S) 0 [(0, .ref h), (1, .int (nI k))] []
  refine g_iload_n hX dT_signAt_0 1 rfl ?_
  refine g_if_lt hX 21 dT_signAt_1 (by decide) (fun c_1 => absurd c_1 (nI_pos hk)) (fun c_1 => ?_)
  refine g_iload_n hX dT_signAt_4 1 rfl ?_
  refine g_aload_n hX dT_signAt_5 0 rfl ?_
  refine g_get hX 0 rfl rfl 1 (by decide) uu_T q_108 rfl rfl dT_signAt_6 ?_
  refine g_top (y := (nI nT)) (by first | exact hT | (simp [sw]; exact hT)) ?_
  refine g_icmp_ge hX 21 dT_signAt_9 (by decide) (fun c_9 => ?_) (fun c_9 => ?_)
  · refine g_iconst (v := (-1)) hX dT_signAt_21 (by decide) ?_
    exact r_iret hX hQ dT_signAt_22 rfl (⟨congrArg some (congrArg Value.int (sg_out hT96 hk c_9).symm), rfl⟩)
  · have hlt := lt_of_n hT96 hk c_9
    refine g_aload_n hX dT_signAt_12 0 rfl ?_
    refine g_get hX 0 rfl rfl 0 (by decide) uu_T q_107 rfl rfl dT_signAt_13 ?_
    refine g_iload_n hX dT_signAt_16 1 rfl ?_
    refine g_ald (v := (S 0 k)) hX 1 rfl k (by omega) (by decide) (rfl) (rfl) dT_signAt_17 ?_
    refine g_goto hX 22 dT_signAt_18 (by decide) ?_
    exact r_iret hX hQ dT_signAt_22 rfl (⟨congrArg some (congrArg Value.int (sg_in hT96 hk c_9).symm), rfl⟩)
set_option maxHeartbeats 4000000 in
set_option maxRecDepth 20000 in
theorem con_T_digitAt (l : Launch) (Z : ZZ) (h : Nat) (q : Nat → Nat) (S : St) (k : Nat) (hk : k < 2 ^ 31) (nT : Nat) (hT : S 1 0 = nI nT) (hT96 : nT ≤ 96) : Con l Z yT_digitAt cT_digitAt 3 (some .int) 1 [.ref h, .int (nI k)] (wT Z h q S) (Fn (some (.int (dg S nT k))) (wT Z h q S)) := by
  refine Con.of (by decide) (Nat.le_of_ble_eq_true rfl) (fun X hX hQ => ?_)
  show G X Z (wT Z h q S) 0 [(0, .ref h), (1, .int (nI k))] []
  refine g_aload_n hX dT_digitAt_0 0 rfl ?_
  refine g_iload_n hX dT_digitAt_1 1 rfl ?_
  refine g_callV hX (con_T_signAt l Z h q S k hk nT hT hT96) mvT_signAt q_187 rfl (by decide) 0 rfl rfl rfl (Nat.le_of_ble_eq_true rfl) dT_digitAt_2 [0, 1] rfl rfl (g_fn (ws1 := wT Z h q S) (st1 := [.int (sg S nT k)]) rfl rfl ?_)
  refine g_istore_n (lv1 := [(0, .ref h), (1, .int (nI k)), (2, .int (sg S nT k))]) hX dT_digitAt_5 (by decide) [1, 2, 0] rfl ?_
  refine g_iload_n hX dT_digitAt_6 2 rfl ?_
  refine g_bipush (v := 48) hX dT_digitAt_7 (by decide) ?_
  refine g_icmp_lt hX 25 dT_digitAt_9 (by decide) (fun c_9 => ?_) (fun c_9 => ?_)
  · refine g_iconst (v := (-1)) hX dT_digitAt_25 (by decide) ?_
    exact r_iret hX hQ dT_digitAt_26 rfl (⟨by simp [dg, c_9], rfl⟩)
  · refine g_iload_n hX dT_digitAt_12 2 rfl ?_
    refine g_bipush (v := 57) hX dT_digitAt_13 (by decide) ?_
    refine g_icmp_gt hX 25 dT_digitAt_15 (by decide) (fun c_15 => ?_) (fun c_15 => ?_)
    · refine g_iconst (v := (-1)) hX dT_digitAt_25 (by decide) ?_
      exact r_iret hX hQ dT_digitAt_26 rfl (⟨by simp [dg, c_9, c_15], rfl⟩)
    · refine g_iload_n hX dT_digitAt_18 2 rfl ?_
      refine g_bipush (v := 48) hX dT_digitAt_19 (by decide) ?_
      refine g_isub (z := ((sg S nT k) - 48)) hX dT_digitAt_21 (rfl) ?_
      refine g_goto hX 26 dT_digitAt_22 (by decide) ?_
      exact r_iret hX hQ dT_digitAt_26 rfl (⟨by simp [dg, c_9, c_15], rfl⟩)
set_option maxHeartbeats 4000000 in
set_option maxRecDepth 20000 in
theorem con_T_numberAt (l : Launch) (Z : ZZ) (h : Nat) (q : Nat → Nat) (S : St) (k : Nat) (hk : k < 2 ^ 30) (nT : Nat) (hT : S 1 0 = nI nT) (hT96 : nT ≤ 96) : Con l Z yT_numberAt cT_numberAt 4 (some .int) 2 [.ref h, .int (nI k)] (wT Z h q S) (Fn (some (.int (nmb S nT k))) (wT Z h q S)) := by
  refine Con.of (by decide) (Nat.le_of_ble_eq_true rfl) (fun X hX hQ => ?_)
  show G X Z (wT Z h q S) 0 [(0, .ref h), (1, .int (nI k))] []
  refine g_aload_n hX dT_numberAt_0 0 rfl ?_
  refine g_iload_n hX dT_numberAt_1 1 rfl ?_
  refine g_callV hX (con_T_digitAt l Z h q S k (by omega) nT hT hT96) mvT_digitAt q_255 rfl (by decide) 0 rfl rfl rfl (Nat.le_of_ble_eq_true rfl) dT_numberAt_2 [0, 1] rfl rfl (g_fn (ws1 := wT Z h q S) (st1 := [.int (dg S nT k)]) rfl rfl ?_)
  refine g_istore_n (lv1 := [(0, .ref h), (1, .int (nI k)), (2, .int (dg S nT k))]) hX dT_numberAt_5 (by decide) [1, 2, 0] rfl ?_
  refine g_iconst (v := 1) hX dT_numberAt_6 (by decide) ?_
  refine g_istore_n (lv1 := [(0, .ref h), (1, .int (nI k)), (2, .int (dg S nT k)), (3, .int 1)]) hX dT_numberAt_7 (by decide) [1, 2, 3, 0] rfl ?_
  refine g_iload_n hX dT_numberAt_8 3 rfl ?_
  refine g_iconst (v := 3) hX dT_numberAt_9 (by decide) ?_
  refine g_icmp_ge hX 42 dT_numberAt_10 (by decide) (fun c_10 => absurd c_10 (by decide)) (fun c_10 => ?_)
  refine g_aload_n hX dT_numberAt_13 0 rfl ?_
  refine g_iload_n hX dT_numberAt_14 1 rfl ?_
  refine g_iload_n hX dT_numberAt_15 3 rfl ?_
  refine g_iadd (z := (nI (k + 1))) hX dT_numberAt_16 (nI_add k 1) ?_
  refine g_callV hX (con_T_digitAt l Z h q S (k + 1) (by omega) nT hT hT96) mvT_digitAt q_255 rfl (by decide) 0 rfl rfl rfl (Nat.le_of_ble_eq_true rfl) dT_numberAt_17 [0, 1] rfl rfl (g_fn (ws1 := wT Z h q S) (st1 := [.int (dg S nT (k + 1))]) rfl rfl ?_)
  refine g_if_lt hX 42 dT_numberAt_20 (by decide) (fun c_20 => ?_) (fun c_20 => ?_)
  · refine g_iload_n hX dT_numberAt_42 2 rfl ?_
    exact r_iret hX hQ dT_numberAt_43 rfl (⟨by simp [nmb, c_10, c_20], rfl⟩)
  · refine g_bipush (v := 10) hX dT_numberAt_23 (by decide) ?_
    refine g_iload_n hX dT_numberAt_25 2 rfl ?_
    refine g_imul (z := (10 * (dg S nT k))) hX dT_numberAt_26 (rfl) ?_
    refine g_aload_n hX dT_numberAt_27 0 rfl ?_
    refine g_iload_n hX dT_numberAt_28 1 rfl ?_
    refine g_iload_n hX dT_numberAt_29 3 rfl ?_
    refine g_iadd (z := (nI (k + 1))) hX dT_numberAt_30 (nI_add k 1) ?_
    refine g_callV hX (con_T_digitAt l Z h q S (k + 1) (by omega) nT hT hT96) mvT_digitAt q_255 rfl (by decide) 0 rfl rfl rfl (Nat.le_of_ble_eq_true rfl) dT_numberAt_31 [0, 1] rfl rfl (g_fn (ws1 := wT Z h q S) (st1 := [.int (dg S nT (k + 1)), .int (10 * (dg S nT k))]) rfl rfl ?_)
    refine g_iadd (z := ((10 * (dg S nT k)) + (dg S nT (k + 1)))) hX dT_numberAt_34 (rfl) ?_
    refine g_istore_n (lv1 := [(0, .ref h), (1, .int (nI k)), (2, .int ((10 * (dg S nT k)) + (dg S nT (k + 1)))), (3, .int 1)]) hX dT_numberAt_35 (by decide) [1, 2, 0, 3] rfl ?_
    refine g_iinc (v := 2) (lv1 := [(0, .ref h), (1, .int (nI k)), (2, .int ((10 * (dg S nT k)) + (dg S nT (k + 1)))), (3, .int 2)]) hX dT_numberAt_36 3 rfl (by decide) (by decide) [1, 2, 3, 0] rfl ?_
    refine g_goto hX 8 dT_numberAt_39 (by decide) ?_
    refine g_iload_n hX dT_numberAt_8 3 rfl ?_
    refine g_iconst (v := 3) hX dT_numberAt_9 (by decide) ?_
    refine g_icmp_ge hX 42 dT_numberAt_10 (by decide) (fun c_10x => absurd c_10x (by decide)) (fun c_10x => ?_)
    refine g_aload_n hX dT_numberAt_13 0 rfl ?_
    refine g_iload_n hX dT_numberAt_14 1 rfl ?_
    refine g_iload_n hX dT_numberAt_15 3 rfl ?_
    refine g_iadd (z := (nI (k + 2))) hX dT_numberAt_16 (nI_add k 2) ?_
    refine g_callV hX (con_T_digitAt l Z h q S (k + 2) (by omega) nT hT hT96) mvT_digitAt q_255 rfl (by decide) 0 rfl rfl rfl (Nat.le_of_ble_eq_true rfl) dT_numberAt_17 [0, 1] rfl rfl (g_fn (ws1 := wT Z h q S) (st1 := [.int (dg S nT (k + 2))]) rfl rfl ?_)
    refine g_if_lt hX 42 dT_numberAt_20 (by decide) (fun c_20x => ?_) (fun c_20x => ?_)
    · refine g_iload_n hX dT_numberAt_42 2 rfl ?_
      exact r_iret hX hQ dT_numberAt_43 rfl (⟨by simp [nmb, c_10, c_20, c_10x, c_20x], rfl⟩)
    · refine g_bipush (v := 10) hX dT_numberAt_23 (by decide) ?_
      refine g_iload_n hX dT_numberAt_25 2 rfl ?_
      refine g_imul (z := (10 * ((10 * (dg S nT k)) + (dg S nT (k + 1))))) hX dT_numberAt_26 (rfl) ?_
      refine g_aload_n hX dT_numberAt_27 0 rfl ?_
      refine g_iload_n hX dT_numberAt_28 1 rfl ?_
      refine g_iload_n hX dT_numberAt_29 3 rfl ?_
      refine g_iadd (z := (nI (k + 2))) hX dT_numberAt_30 (nI_add k 2) ?_
      refine g_callV hX (con_T_digitAt l Z h q S (k + 2) (by omega) nT hT hT96) mvT_digitAt q_255 rfl (by decide) 0 rfl rfl rfl (Nat.le_of_ble_eq_true rfl) dT_numberAt_31 [0, 1] rfl rfl (g_fn (ws1 := wT Z h q S) (st1 := [.int (dg S nT (k + 2)), .int (10 * ((10 * (dg S nT k)) + (dg S nT (k + 1))))]) rfl rfl ?_)
      refine g_iadd (z := ((10 * ((10 * (dg S nT k)) + (dg S nT (k + 1)))) + (dg S nT (k + 2)))) hX dT_numberAt_34 (rfl) ?_
      refine g_istore_n (lv1 := [(0, .ref h), (1, .int (nI k)), (2, .int ((10 * ((10 * (dg S nT k)) + (dg S nT (k + 1)))) + (dg S nT (k + 2)))), (3, .int 2)]) hX dT_numberAt_35 (by decide) [1, 2, 0, 3] rfl ?_
      refine g_iinc (v := 3) (lv1 := [(0, .ref h), (1, .int (nI k)), (2, .int ((10 * ((10 * (dg S nT k)) + (dg S nT (k + 1)))) + (dg S nT (k + 2)))), (3, .int 3)]) hX dT_numberAt_36 3 rfl (by decide) (by decide) [1, 2, 3, 0] rfl ?_
      refine g_goto hX 8 dT_numberAt_39 (by decide) ?_
      refine g_iload_n hX dT_numberAt_8 3 rfl ?_
      refine g_iconst (v := 3) hX dT_numberAt_9 (by decide) ?_
      refine g_icmp_ge hX 42 dT_numberAt_10 (by decide) (fun c_10xx => ?_) (fun c_10xx => absurd (by decide) c_10xx)
      refine g_iload_n hX dT_numberAt_42 2 rfl ?_
      exact r_iret hX hQ dT_numberAt_43 rfl (⟨by simp [nmb, c_10, c_20, c_10x, c_20x, c_10xx], rfl⟩)
set_option maxHeartbeats 4000000 in
set_option maxRecDepth 20000 in
theorem con_T_shapeBehind (l : Launch) (Z : ZZ) (x : Int32) : Con l Z yT_shapeBehind cT_shapeBehind 1 (some (.object "java/lang/String")) 0 [.int x] [] (Fn (some (.ref (adK Z (shp x)))) []) := by
  refine Con.of (by decide) (Nat.le_of_ble_eq_true rfl) (fun X hX hQ => ?_)
  show G X Z [] 0 [(0, .int x)] []
  refine g_iload_n hX dT_shapeBehind_0 0 rfl ?_
  by_cases c_1_107 : x = 107
  · refine g_tabIn (off := 54) hX 55 dT_shapeBehind_1 (by rw [c_1_107]; decide) (by rw [c_1_107]; decide) (by rw [c_1_107]; decide) (by decide) ?_
    refine g_ldcS (i := 1) hX (by decide) rfl rfl dT_shapeBehind_55 ?_
    exact r_aret hX hQ ⟨_, rfl⟩ dT_shapeBehind_57 rfl (⟨by simp [shp, c_1_107], rfl⟩)
  by_cases c_1_108 : x = 108
  · refine g_tabIn (off := 57) hX 58 dT_shapeBehind_1 (by rw [c_1_108]; decide) (by rw [c_1_108]; decide) (by rw [c_1_108]; decide) (by decide) ?_
    refine g_ldcS (i := 2) hX (by decide) rfl rfl dT_shapeBehind_58 ?_
    exact r_aret hX hQ ⟨_, rfl⟩ dT_shapeBehind_60 rfl (⟨by simp [shp, c_1_107, c_1_108], rfl⟩)
  by_cases c_1_109 : x = 109
  · refine g_tabIn (off := 66) hX 67 dT_shapeBehind_1 (by rw [c_1_109]; decide) (by rw [c_1_109]; decide) (by rw [c_1_109]; decide) (by decide) ?_
    refine g_ldcS (i := 4) hX (by decide) rfl rfl dT_shapeBehind_67 ?_
    exact r_aret hX hQ ⟨_, rfl⟩ dT_shapeBehind_69 rfl (⟨by simp [shp, c_1_107, c_1_108, c_1_109], rfl⟩)
  by_cases c_1_110 : x = 110
  · refine g_tabIn (off := 66) hX 67 dT_shapeBehind_1 (by rw [c_1_110]; decide) (by rw [c_1_110]; decide) (by rw [c_1_110]; decide) (by decide) ?_
    refine g_ldcS (i := 4) hX (by decide) rfl rfl dT_shapeBehind_67 ?_
    exact r_aret hX hQ ⟨_, rfl⟩ dT_shapeBehind_69 rfl (⟨by simp [shp, c_1_107, c_1_108, c_1_109, c_1_110], rfl⟩)
  by_cases c_1_111 : x = 111
  · refine g_tabIn (off := 66) hX 67 dT_shapeBehind_1 (by rw [c_1_111]; decide) (by rw [c_1_111]; decide) (by rw [c_1_111]; decide) (by decide) ?_
    refine g_ldcS (i := 4) hX (by decide) rfl rfl dT_shapeBehind_67 ?_
    exact r_aret hX hQ ⟨_, rfl⟩ dT_shapeBehind_69 rfl (⟨by simp [shp, c_1_107, c_1_108, c_1_109, c_1_110, c_1_111], rfl⟩)
  by_cases c_1_112 : x = 112
  · refine g_tabIn (off := 60) hX 61 dT_shapeBehind_1 (by rw [c_1_112]; decide) (by rw [c_1_112]; decide) (by rw [c_1_112]; decide) (by decide) ?_
    refine g_ldcS (i := 3) hX (by decide) rfl rfl dT_shapeBehind_61 ?_
    exact r_aret hX hQ ⟨_, rfl⟩ dT_shapeBehind_63 rfl (⟨by simp [shp, c_1_107, c_1_108, c_1_109, c_1_110, c_1_111, c_1_112], rfl⟩)
  by_cases c_1_113 : x = 113
  · refine g_tabIn (off := 66) hX 67 dT_shapeBehind_1 (by rw [c_1_113]; decide) (by rw [c_1_113]; decide) (by rw [c_1_113]; decide) (by decide) ?_
    refine g_ldcS (i := 4) hX (by decide) rfl rfl dT_shapeBehind_67 ?_
    exact r_aret hX hQ ⟨_, rfl⟩ dT_shapeBehind_69 rfl (⟨by simp [shp, c_1_107, c_1_108, c_1_109, c_1_110, c_1_111, c_1_112, c_1_113], rfl⟩)
  by_cases c_1_114 : x = 114
  · refine g_tabIn (off := 51) hX 52 dT_shapeBehind_1 (by rw [c_1_114]; decide) (by rw [c_1_114]; decide) (by rw [c_1_114]; decide) (by decide) ?_
    refine g_ldcS (i := 0) hX (by decide) rfl rfl dT_shapeBehind_52 ?_
    exact r_aret hX hQ ⟨_, rfl⟩ dT_shapeBehind_54 rfl (⟨by simp [shp, c_1_107, c_1_108, c_1_109, c_1_110, c_1_111, c_1_112, c_1_113, c_1_114], rfl⟩)
  by_cases c_1_115 : x = 115
  · refine g_tabIn (off := 63) hX 64 dT_shapeBehind_1 (by rw [c_1_115]; decide) (by rw [c_1_115]; decide) (by rw [c_1_115]; decide) (by decide) ?_
    refine g_ldcS (i := 1) hX (by decide) rfl rfl dT_shapeBehind_64 ?_
    exact r_aret hX hQ ⟨_, rfl⟩ dT_shapeBehind_66 rfl (⟨by simp [shp, c_1_107, c_1_108, c_1_109, c_1_110, c_1_111, c_1_112, c_1_113, c_1_114, c_1_115], rfl⟩)
  refine g_tabOut hX 67 dT_shapeBehind_1 (by have := ne_toInt c_1_107 (z := 107) (by decide); have := ne_toInt c_1_108 (z := 108) (by decide); have := ne_toInt c_1_109 (z := 109) (by decide); have := ne_toInt c_1_110 (z := 110) (by decide); have := ne_toInt c_1_111 (z := 111) (by decide); have := ne_toInt c_1_112 (z := 112) (by decide); have := ne_toInt c_1_113 (z := 113) (by decide); have := ne_toInt c_1_114 (z := 114) (by decide); have := ne_toInt c_1_115 (z := 115) (by decide); omega) (by decide) ?_
  refine g_ldcS (i := 4) hX (by decide) rfl rfl dT_shapeBehind_67 ?_
  exact r_aret hX hQ ⟨_, rfl⟩ dT_shapeBehind_69 rfl (⟨by simp [shp, c_1_107, c_1_108, c_1_109, c_1_110, c_1_111, c_1_112, c_1_113, c_1_114, c_1_115], rfl⟩)
set_option maxHeartbeats 4000000 in
set_option maxRecDepth 20000 in
theorem con_T_isDue (l : Launch) (Z : ZZ) (h : Nat) (q : Nat → Nat) (S : St) (c : Int32) (k : Nat) (hk : k < 2 ^ 31) (nT : Nat) (hT : S 1 0 = nI nT) (hT96 : nT ≤ 96) : Con l Z yT_isDue cT_isDue 3 (some .boolean) 2 [.ref h, .int c, .int (nI k)] (wT Z h q S) (Fn (some (.int (dueS S nT c k))) (wT Z h q S)) := by
  refine Con.of (by decide) (Nat.le_of_ble_eq_true rfl) (fun X hX hQ => ?_)
  show G X Z (wT Z h q S) 0 [(0, .ref h), (1, .int c), (2, .int (nI k))] []
  refine g_iload_n hX dT_isDue_0 1 rfl ?_
  by_cases c_1_35 : c = 35
  · refine g_look (off := 35) hX 36 dT_isDue_1 (by decide) (by rw [c_1_35]; decide) (by decide) ?_
    refine g_aload_n hX dT_isDue_36 0 rfl ?_
    refine g_iload_n hX dT_isDue_37 2 rfl ?_
    refine g_callV hX (con_T_digitAt l Z h q S k hk nT hT hT96) mvT_digitAt q_255 rfl (by decide) 0 rfl rfl rfl (Nat.le_of_ble_eq_true rfl) dT_isDue_38 [0, 1] rfl rfl (g_fn (ws1 := wT Z h q S) (st1 := [.int (dg S nT k)]) rfl rfl ?_)
    refine g_if_lt hX 48 dT_isDue_41 (by decide) (fun c_41 => ?_) (fun c_41 => ?_)
    · refine g_iconst (v := 0) hX dT_isDue_48 (by decide) ?_
      exact r_zret hX hQ (rfl) dT_isDue_49 rfl (⟨by simp [dueS, c_1_35, c_41], rfl⟩)
    · refine g_iconst (v := 1) hX dT_isDue_44 (by decide) ?_
      refine g_goto hX 49 dT_isDue_45 (by decide) ?_
      exact r_zret hX hQ (rfl) dT_isDue_49 rfl (⟨by simp [dueS, c_1_35, c_41], rfl⟩)
  by_cases c_1_63 : c = 63
  · refine g_look (off := 49) hX 50 dT_isDue_1 (by decide) (by rw [c_1_63]; decide) (by decide) ?_
    refine g_aload_n hX dT_isDue_50 0 rfl ?_
    refine g_iload_n hX dT_isDue_51 2 rfl ?_
    refine g_callV hX (con_T_digitAt l Z h q S k hk nT hT hT96) mvT_digitAt q_255 rfl (by decide) 0 rfl rfl rfl (Nat.le_of_ble_eq_true rfl) dT_isDue_52 [0, 1] rfl rfl (g_fn (ws1 := wT Z h q S) (st1 := [.int (dg S nT k)]) rfl rfl ?_)
    refine g_if_lt hX 62 dT_isDue_55 (by decide) (fun c_55 => ?_) (fun c_55 => ?_)
    · refine g_iconst (v := 0) hX dT_isDue_62 (by decide) ?_
      exact r_zret hX hQ (rfl) dT_isDue_63 rfl (⟨by simp [dueS, c_1_35, c_1_63, c_55], rfl⟩)
    · refine g_iconst (v := 1) hX dT_isDue_58 (by decide) ?_
      refine g_goto hX 63 dT_isDue_59 (by decide) ?_
      exact r_zret hX hQ (rfl) dT_isDue_63 rfl (⟨by simp [dueS, c_1_35, c_1_63, c_55], rfl⟩)
  by_cases c_1_64 : c = 64
  · refine g_look (off := 63) hX 64 dT_isDue_1 (by decide) (by rw [c_1_64]; decide) (by decide) ?_
    refine g_aload_n hX dT_isDue_64 0 rfl ?_
    refine g_iload_n hX dT_isDue_65 2 rfl ?_
    refine g_callV hX (con_T_signAt l Z h q S k hk nT hT hT96) mvT_signAt q_187 rfl (by decide) 0 rfl rfl rfl (Nat.le_of_ble_eq_true rfl) dT_isDue_66 [0, 1] rfl rfl (g_fn (ws1 := wT Z h q S) (st1 := [.int (sg S nT k)]) rfl rfl ?_)
    refine g_callN hX (con_X_kindOf l Z (sg S nT k)) msX_kindOf (fun U H hE => hE.1.1) rfl (by decide) rfl (Nat.le_of_ble_eq_true rfl) dT_isDue_69 [] rfl rfl (g_fn (ws1 := wT Z h q S) (st1 := [.int (kindOfS (sg S nT k))]) rfl rfl ?_)
    refine g_if_lt hX 79 dT_isDue_72 (by decide) (fun c_72 => ?_) (fun c_72 => ?_)
    · refine g_iconst (v := 0) hX dT_isDue_79 (by decide) ?_
      exact r_zret hX hQ (rfl) dT_isDue_80 rfl (⟨by simp [dueS, c_1_35, c_1_63, c_1_64, c_72], rfl⟩)
    · refine g_iconst (v := 1) hX dT_isDue_75 (by decide) ?_
      refine g_goto hX 80 dT_isDue_76 (by decide) ?_
      exact r_zret hX hQ (rfl) dT_isDue_80 rfl (⟨by simp [dueS, c_1_35, c_1_63, c_1_64, c_72], rfl⟩)
  refine g_look (off := 80) hX 81 dT_isDue_1 (by decide) (by rw [lv_osw c_1_35 (by decide)]; rw [lv_osw c_1_63 (by decide)]; rw [lv_osw c_1_64 (by decide)]; rfl) (by decide) ?_
  refine g_aload_n hX dT_isDue_81 0 rfl ?_
  refine g_iload_n hX dT_isDue_82 2 rfl ?_
  refine g_callV hX (con_T_signAt l Z h q S k hk nT hT hT96) mvT_signAt q_187 rfl (by decide) 0 rfl rfl rfl (Nat.le_of_ble_eq_true rfl) dT_isDue_83 [0, 1] rfl rfl (g_fn (ws1 := wT Z h q S) (st1 := [.int (sg S nT k)]) rfl rfl ?_)
  refine g_iload_n hX dT_isDue_86 1 rfl ?_
  refine g_icmp_ne hX 94 dT_isDue_87 (by decide) (fun c_87 => ?_) (fun c_87 => ?_)
  · refine g_iconst (v := 0) hX dT_isDue_94 (by decide) ?_
    exact r_zret hX hQ (rfl) dT_isDue_95 rfl (⟨by simp [dueS, c_1_35, c_1_63, c_1_64, c_87], rfl⟩)
  · refine g_iconst (v := 1) hX dT_isDue_90 (by decide) ?_
    refine g_goto hX 95 dT_isDue_91 (by decide) ?_
    exact r_zret hX hQ (rfl) dT_isDue_95 rfl (⟨by simp [dueS, c_1_35, c_1_63, c_1_64, c_87], rfl⟩)
set_option maxHeartbeats 4000000 in
set_option maxRecDepth 20000 in
theorem con_T_behindStatement (l : Launch) (Z : ZZ) (h : Nat) (q : Nat → Nat) (S : St) (k : Nat) (hk : k < 2 ^ 30) (nT : Nat) (hT : S 1 0 = nI nT) (hT96 : nT ≤ 96) : Con l Z yT_behindStatement cT_behindStatement 6 (some .int) 4 [.ref h, .int (nI k)] (wT Z h q S) (Fn (some (.int (bs S nT k))) (wT Z h q S)) := by
  refine Con.of (by decide) (Nat.le_of_ble_eq_true rfl) (fun X hX hQ => ?_)
  show G X Z (wT Z h q S) 0 [(0, .ref h), (1, .int (nI k))] []
  refine g_aload_n hX dT_behindStatement_0 0 rfl ?_
  refine g_iload_n hX dT_behindStatement_1 1 rfl ?_
  refine g_callV hX (con_T_signAt l Z h q S k (by omega) nT hT hT96) mvT_signAt q_187 rfl (by decide) 0 rfl rfl rfl (Nat.le_of_ble_eq_true rfl) dT_behindStatement_2 [0, 1] rfl rfl (g_fn (ws1 := wT Z h q S) (st1 := [.int (sg S nT k)]) rfl rfl ?_)
  refine g_callS hX (con_T_shapeBehind l Z (sg S nT k)) msT_shapeBehind q_191 rfl (by decide) rfl (Nat.le_of_ble_eq_true rfl) dT_behindStatement_5 [] rfl rfl (g_fn (ws1 := wT Z h q S) (st1 := [.ref (adK Z (shp (sg S nT k)))]) rfl rfl ?_)
  refine g_astore_n (lv1 := [(0, .ref h), (1, .int (nI k)), (2, .ref (adK Z (shp (sg S nT k))))]) hX dT_behindStatement_8 (by decide) [1, 2, 0] rfl ?_
  refine g_aload_n hX dT_behindStatement_9 2 rfl ?_
  refine g_callT hX (con_JS_isEmpty l Z (shp (sg S nT k)) (shp_lt _)) mvJS_isEmpty q_199 rfl (by decide) (shp_lt _) rfl rfl (Nat.le_of_ble_eq_true rfl) dT_behindStatement_10 [] rfl rfl (g_fn (ws1 := wT Z h q S) (st1 := [.int (semp (shp (sg S nT k)))]) rfl rfl ?_)
  refine g_if_eq hX 20 dT_behindStatement_13 (by decide) (fun c_13 => ?_) (fun c_13 => ?_)
  · have hl9 := sLen9 (shp (sg S nT k)) (shp_lt _)
    refine g_iload_n hX dT_behindStatement_20 1 rfl ?_
    refine g_iconst (v := 1) hX dT_behindStatement_21 (by decide) ?_
    refine g_iadd (z := (nI (k + 1))) hX dT_behindStatement_22 (nI_add k 1) ?_
    refine g_istore_n (lv1 := [(0, .ref h), (1, .int (nI k)), (2, .ref (adK Z (shp (sg S nT k)))), (3, .int (nI (k + 1)))]) hX dT_behindStatement_23 (by decide) [1, 2, 3, 0] rfl ?_
    refine g_iconst (v := 0) hX dT_behindStatement_24 (by decide) ?_
    refine g_istore (lv1 := [(0, .ref h), (1, .int (nI k)), (2, .ref (adK Z (shp (sg S nT k)))), (3, .int (nI (k + 1))), (4, .int 0)]) hX dT_behindStatement_25 (by decide) [1, 2, 3, 4, 0] rfl ?_
    have hL_27 : ∀ i0, i0 ≤ sLen.getD (shp (sg S nT k)) 0 → ∀ (h0 : Nat), bsL S nT (shp (sg S nT k)) (sLen.getD (shp (sg S nT k)) 0 - i0) i0 h0 = bsL S nT (shp (sg S nT k)) (sLen.getD (shp (sg S nT k)) 0) 0 (k + 1) ∧ h0 ≤ k + 1 + i0 → G X Z (wT Z h q S) 27 [(0, .ref h), (1, .int (nI k)), (2, .ref (adK Z (shp (sg S nT k)))), (3, .int (nI h0)), (4, .int (nI i0))] [] := by
      refine loopUp _ (sLen.getD (shp (sg S nT k)) 0) ?_ (fun i0 hi_i0 ih_i0 => ?_)
      · intro h0 hq_i0
        refine g_iload hX dT_behindStatement_27 4 rfl ?_
        refine g_aload_n hX dT_behindStatement_29 2 rfl ?_
        refine g_callT hX (con_JS_length l Z (shp (sg S nT k)) (shp_lt _)) mvJS_length q_203 rfl (by decide) (shp_lt _) rfl rfl (Nat.le_of_ble_eq_true rfl) dT_behindStatement_30 [] rfl rfl (g_fn (ws1 := wT Z h q S) (st1 := [.int (nI (sLen.getD (shp (sg S nT k)) 0)), .int (nI (sLen.getD (shp (sg S nT k)) 0))]) rfl rfl ?_)
        refine g_icmp_ge hX 77 dT_behindStatement_33 (by decide) (fun c_33 => ?_) (fun c_33 => absurd (nI_le (a := sLen.getD (shp (sg S nT k)) 0) (b := sLen.getD (shp (sg S nT k)) 0) (Nat.le_refl _) (by have := sLen_lt (shp (sg S nT k)) (shp_lt _); omega)) c_33)
        refine g_iload_n hX dT_behindStatement_77 3 rfl ?_
        exact r_iret hX hQ dT_behindStatement_78 rfl (⟨by rw [show bs S nT k = _ from if_pos c_13, ← hq_i0.1, Nat.sub_self]; rfl, rfl⟩)
      · intro h0 hq_i0
        refine g_iload hX dT_behindStatement_27 4 rfl ?_
        refine g_aload_n hX dT_behindStatement_29 2 rfl ?_
        refine g_callT hX (con_JS_length l Z (shp (sg S nT k)) (shp_lt _)) mvJS_length q_203 rfl (by decide) (shp_lt _) rfl rfl (Nat.le_of_ble_eq_true rfl) dT_behindStatement_30 [] rfl rfl (g_fn (ws1 := wT Z h q S) (st1 := [.int (nI (sLen.getD (shp (sg S nT k)) 0)), .int (nI i0)]) rfl rfl ?_)
        refine g_icmp_ge hX 77 dT_behindStatement_33 (by decide) (fun c_33 => absurd c_33 (nI_ge (a := i0) (b := sLen.getD (shp (sg S nT k)) 0) hi_i0 (by have := sLen_lt (shp (sg S nT k)) (shp_lt _); omega))) (fun c_33 => ?_)
        refine g_aload_n hX dT_behindStatement_36 2 rfl ?_
        refine g_iload hX dT_behindStatement_37 4 rfl ?_
        refine g_callT hX (con_JS_charAt l Z (shp (sg S nT k)) i0 (shp_lt _) hi_i0) mvJS_charAt q_213 rfl (by decide) (shp_lt _) rfl rfl (Nat.le_of_ble_eq_true rfl) dT_behindStatement_39 [] rfl rfl (g_fn (ws1 := wT Z h q S) (st1 := [.int (sch (shp (sg S nT k)) i0)]) rfl rfl ?_)
        refine g_istore (lv1 := [(0, .ref h), (1, .int (nI k)), (2, .ref (adK Z (shp (sg S nT k)))), (3, .int (nI h0)), (4, .int (nI i0)), (5, .int (sch (shp (sg S nT k)) i0))]) hX dT_behindStatement_42 (by decide) [1, 2, 3, 4, 5, 0] rfl ?_
        refine g_aload_n hX dT_behindStatement_44 0 rfl ?_
        refine g_iload hX dT_behindStatement_45 5 rfl ?_
        refine g_iload_n hX dT_behindStatement_47 3 rfl ?_
        refine g_callV hX (con_T_isDue l Z h q S (sch (shp (sg S nT k)) i0) h0 (by omega) nT hT hT96) mvT_isDue q_251 rfl (by decide) 0 rfl rfl rfl (Nat.le_of_ble_eq_true rfl) dT_behindStatement_48 [0, 1] rfl rfl (g_fn (ws1 := wT Z h q S) (st1 := [.int (dueS S nT (sch (shp (sg S nT k)) i0) h0)]) rfl rfl ?_)
        refine g_if_eq hX 60 dT_behindStatement_51 (by decide) (fun c_51 => ?_) (fun c_51 => ?_)
        · refine g_iload hX dT_behindStatement_60 5 rfl ?_
          refine g_bipush (v := 63) hX dT_behindStatement_62 (by decide) ?_
          refine g_icmp_eq hX 71 dT_behindStatement_64 (by decide) (fun c_64 => ?_) (fun c_64 => ?_)
          · refine g_iinc (v := (nI (i0 + 1))) (lv1 := [(0, .ref h), (1, .int (nI k)), (2, .ref (adK Z (shp (sg S nT k)))), (3, .int (nI h0)), (4, .int (nI (i0 + 1))), (5, .int (sch (shp (sg S nT k)) i0))]) hX dT_behindStatement_71 4 rfl (inc_nat _) (by decide) [1, 2, 3, 4, 0, 5] rfl ?_
            refine g_goto hX 27 dT_behindStatement_74 (by decide) ?_
            refine g_lv (lv1 := [(0, .ref h), (1, .int (nI k)), (2, .ref (adK Z (shp (sg S nT k)))), (3, .int (nI h0)), (4, .int (nI (i0 + 1)))]) [0, 1, 2, 3, 4] rfl ?_
            exact ih_i0 h0 (⟨by rw [← hq_i0.1, show sLen.getD (shp (sg S nT k)) 0 - i0 = (sLen.getD (shp (sg S nT k)) 0 - (i0 + 1)) + 1 by omega, bsL, if_pos c_51, if_pos c_64], by omega⟩)
          · refine g_iconst (v := (-1)) hX dT_behindStatement_67 (by decide) ?_
            refine g_iload_n hX dT_behindStatement_68 3 rfl ?_
            refine g_isub (z := ((-1) - (nI h0))) hX dT_behindStatement_69 (rfl) ?_
            exact r_iret hX hQ dT_behindStatement_70 rfl (⟨by rw [show bs S nT k = _ from if_pos c_13]; rw [← hq_i0.1, show sLen.getD (shp (sg S nT k)) 0 - i0 = (sLen.getD (shp (sg S nT k)) 0 - (i0 + 1)) + 1 by omega, bsL, if_pos c_51, if_neg c_64], rfl⟩)
        · refine g_iinc (v := (nI (h0 + 1))) (lv1 := [(0, .ref h), (1, .int (nI k)), (2, .ref (adK Z (shp (sg S nT k)))), (3, .int (nI (h0 + 1))), (4, .int (nI i0)), (5, .int (sch (shp (sg S nT k)) i0))]) hX dT_behindStatement_54 3 rfl (inc_nat _) (by decide) [1, 2, 3, 0, 4, 5] rfl ?_
          refine g_goto hX 71 dT_behindStatement_57 (by decide) ?_
          refine g_iinc (v := (nI (i0 + 1))) (lv1 := [(0, .ref h), (1, .int (nI k)), (2, .ref (adK Z (shp (sg S nT k)))), (3, .int (nI (h0 + 1))), (4, .int (nI (i0 + 1))), (5, .int (sch (shp (sg S nT k)) i0))]) hX dT_behindStatement_71 4 rfl (inc_nat _) (by decide) [1, 2, 3, 4, 0, 5] rfl ?_
          refine g_goto hX 27 dT_behindStatement_74 (by decide) ?_
          refine g_lv (lv1 := [(0, .ref h), (1, .int (nI k)), (2, .ref (adK Z (shp (sg S nT k)))), (3, .int (nI (h0 + 1))), (4, .int (nI (i0 + 1)))]) [0, 1, 2, 3, 4] rfl ?_
          exact ih_i0 (h0 + 1) (⟨by rw [← hq_i0.1, show sLen.getD (shp (sg S nT k)) 0 - i0 = (sLen.getD (shp (sg S nT k)) 0 - (i0 + 1)) + 1 by omega, bsL, if_neg c_51], by omega⟩)
    exact hL_27 0 (Nat.zero_le _) (k + 1) (⟨rfl, Nat.le_refl _⟩)
  · refine g_iconst (v := (-1)) hX dT_behindStatement_16 (by decide) ?_
    refine g_iload_n hX dT_behindStatement_17 1 rfl ?_
    refine g_isub (z := ((-1) - (nI k))) hX dT_behindStatement_18 (rfl) ?_
    exact r_iret hX hQ dT_behindStatement_19 rfl (⟨congrArg some (congrArg Value.int (if_neg c_13).symm), rfl⟩)
set_option maxHeartbeats 4000000 in
set_option maxRecDepth 20000 in
theorem con_T_misformedAt (l : Launch) (Z : ZZ) (h : Nat) (q : Nat → Nat) (S : St) (nT : Nat) (hT : S 1 0 = nI nT) (hT96 : nT ≤ 96) : Con l Z yT_misformedAt cT_misformedAt 4 (some .int) 5 [.ref h] (wT Z h q S) (Fn (some (.int (mf S nT))) (wT Z h q S)) := by
  refine Con.of (by decide) (Nat.le_of_ble_eq_true rfl) (fun X hX hQ => ?_)
  show G X Z (wT Z h q S) 0 [(0, .ref h)] []
  refine g_iconst (v := 0) hX dT_misformedAt_0 (by decide) ?_
  refine g_istore_n (lv1 := [(0, .ref h), (1, .int 0)]) hX dT_misformedAt_1 (by decide) [1, 0] rfl ?_
  refine g_iconst (v := 0) hX dT_misformedAt_2 (by decide) ?_
  refine g_istore_n (lv1 := [(0, .ref h), (1, .int 0), (2, .int 0)]) hX dT_misformedAt_3 (by decide) [1, 2, 0] rfl ?_
  have hL_4 : ∀ i0, i0 ≤ 96 → ∀ (a0 : Nat), mfL S nT (96 - i0) a0 = mf S nT ∧ a0 ≤ 96 → G X Z (wT Z h q S) 4 [(0, .ref h), (1, .int (nI a0)), (2, .int (nI i0))] [] := by
    refine loopUp _ 96 ?_ (fun i0 hi_i0 ih_i0 => ?_)
    · intro a0 hq_i0
      refine g_iload_n hX dT_misformedAt_4 2 rfl ?_
      refine g_bipush (v := 96) hX dT_misformedAt_5 (by decide) ?_
      refine g_icmp_ge hX 42 dT_misformedAt_7 (by decide) (fun c_7 => ?_) (fun c_7 => absurd (nI_le (a := 96) (b := 96) (Nat.le_refl _) (by omega)) c_7)
      refine g_iload_n hX dT_misformedAt_42 1 rfl ?_
      exact r_iret hX hQ dT_misformedAt_43 rfl (⟨by rw [← hq_i0.1, Nat.sub_self]; rfl, rfl⟩)
    · intro a0 hq_i0
      refine g_iload_n hX dT_misformedAt_4 2 rfl ?_
      refine g_bipush (v := 96) hX dT_misformedAt_5 (by decide) ?_
      refine g_icmp_ge hX 42 dT_misformedAt_7 (by decide) (fun c_7 => absurd c_7 (nI_ge (a := i0) (b := 96) hi_i0 (by omega))) (fun c_7 => ?_)
      refine g_aload_n hX dT_misformedAt_10 0 rfl ?_
      refine g_iload_n hX dT_misformedAt_11 1 rfl ?_
      refine g_callV hX (con_T_behindStatement l Z h q S a0 (by omega) nT hT hT96) mvT_behindStatement q_183 rfl (by decide) 0 rfl rfl rfl (Nat.le_of_ble_eq_true rfl) dT_misformedAt_12 [0, 1] rfl rfl (g_fn (ws1 := wT Z h q S) (st1 := [.int (bs S nT a0)]) rfl rfl ?_)
      refine g_istore_n (lv1 := [(0, .ref h), (1, .int (nI a0)), (2, .int (nI i0)), (3, .int (bs S nT a0))]) hX dT_misformedAt_15 (by decide) [1, 2, 3, 0] rfl ?_
      refine g_iload_n hX dT_misformedAt_16 3 rfl ?_
      refine g_if_ge hX 24 dT_misformedAt_17 (by decide) (fun c_17 => ?_) (fun c_17 => ?_)
      · refine g_iload_n hX dT_misformedAt_24 3 rfl ?_
        refine g_aload_n hX dT_misformedAt_25 0 rfl ?_
        refine g_get hX 0 rfl rfl 1 (by decide) uu_T q_108 rfl rfl dT_misformedAt_26 ?_
        refine g_top (y := (nI nT)) (by first | exact hT | (simp [sw]; exact hT)) ?_
        refine g_icmp_lt hX 34 dT_misformedAt_29 (by decide) (fun c_29 => ?_) (fun c_29 => ?_)
        · refine g_iload_n hX dT_misformedAt_34 3 rfl ?_
          have hb9 := bs_nat hT96 c_17 c_29
          refine g_top (y := (nI (cl (bs S nT a0)))) hb9.1 ?_
          refine g_istore_n (lv1 := [(0, .ref h), (1, .int (nI (cl (bs S nT a0)))), (2, .int (nI i0)), (3, .int (bs S nT a0))]) hX dT_misformedAt_35 (by decide) [1, 0, 2, 3] rfl ?_
          refine g_iinc (v := (nI (i0 + 1))) (lv1 := [(0, .ref h), (1, .int (nI (cl (bs S nT a0)))), (2, .int (nI (i0 + 1))), (3, .int (bs S nT a0))]) hX dT_misformedAt_36 2 rfl (inc_nat _) (by decide) [1, 2, 0, 3] rfl ?_
          refine g_goto hX 4 dT_misformedAt_39 (by decide) ?_
          refine g_lv (lv1 := [(0, .ref h), (1, .int (nI (cl (bs S nT a0)))), (2, .int (nI (i0 + 1)))]) [0, 1, 2] rfl ?_
          exact ih_i0 (cl (bs S nT a0)) (⟨by rw [← hq_i0.1, show 96 - i0 = (96 - (i0 + 1)) + 1 by omega, mfL, if_pos c_17, if_pos c_29], by omega⟩)
        · refine g_iconst (v := (-1)) hX dT_misformedAt_32 (by decide) ?_
          exact r_iret hX hQ dT_misformedAt_33 rfl (⟨by rw [← hq_i0.1, show 96 - i0 = (96 - (i0 + 1)) + 1 by omega, mfL, if_pos c_17, if_neg c_29], rfl⟩)
      · refine g_iconst (v := (-1)) hX dT_misformedAt_20 (by decide) ?_
        refine g_iload_n hX dT_misformedAt_21 3 rfl ?_
        refine g_isub (z := ((-1) - (bs S nT a0))) hX dT_misformedAt_22 (rfl) ?_
        exact r_iret hX hQ dT_misformedAt_23 rfl (⟨by rw [← hq_i0.1, show 96 - i0 = (96 - (i0 + 1)) + 1 by omega, mfL, if_neg c_17], rfl⟩)
  exact hL_4 0 (Nat.zero_le _) 0 (⟨rfl, by decide⟩)
