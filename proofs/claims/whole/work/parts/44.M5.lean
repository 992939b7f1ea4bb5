/-! the Model: keep -/
def lenM : Nat → Nat := fun k => match k with
  | 0 => 6 | 1 => 6 | 2 => 8 | 3 => 8 | 4 => 8 | 5 => 8 | 6 => 8 | 7 => 5 | 8 => 5 | 9 => 5 | 10 => 5 | 11 => 7 | 12 => 8 | 13 => 96 | 14 => 4 | 15 => 12 | 16 => 7 | 17 => 77 | 18 => 77 | 19 => 7 | 20 => 896 | _ => 7
theorem same_M {Z : ZZ} {h : Nat} {q : Nat → Nat} {S S' : St} (hs : ∀ k, k ≤ 21 → ∀ j, j < lenM k → S k j = S' k j) : Same Z (wM Z h q S) (wM Z h q S') := by
  refine ⟨rfl, fun H hP => ?_⟩
  have e0 : S 12 0 = S' 12 0 := hs 12 (by decide) 0 (by decide)
  have e1 : S 12 1 = S' 12 1 := hs 12 (by decide) 1 (by decide)
  have e2 : S 12 2 = S' 12 2 := hs 12 (by decide) 2 (by decide)
  have e3 : S 12 3 = S' 12 3 := hs 12 (by decide) 3 (by decide)
  have e4 : S 12 4 = S' 12 4 := hs 12 (by decide) 4 (by decide)
  have e5 : S 12 5 = S' 12 5 := hs 12 (by decide) 5 (by decide)
  have e6 : S 12 6 = S' 12 6 := hs 12 (by decide) 6 (by decide)
  have e7 : S 12 7 = S' 12 7 := hs 12 (by decide) 7 (by decide)
  simp only [va_P_cons] at hP ⊢
  obtain ⟨h0, h1, h2, h3, h4, h5, h6, h7, h8, h9, h10, h11, h12, h13, h14, h15, h16, h17, h18, h19, h20, h21, hn⟩ := hP
  rw [e0, e1, e2, e3, e4, e5, e6, e7] at h0
  exact ⟨h0, at_cong (hs 0 (by decide)) h1, at_cong (hs 1 (by decide)) h2, at_cong (hs 2 (by decide)) h3, at_cong (hs 3 (by decide)) h4, at_cong (hs 4 (by decide)) h5, at_cong (hs 5 (by decide)) h6, at_cong (hs 6 (by decide)) h7, at_cong (hs 7 (by decide)) h8, at_cong (hs 8 (by decide)) h9, at_cong (hs 9 (by decide)) h10, at_cong (hs 10 (by decide)) h11, at_cong (hs 11 (by decide)) h12, at_cong (hs 13 (by decide)) h13, at_cong (hs 14 (by decide)) h14, at_cong (hs 15 (by decide)) h15, at_cong (hs 16 (by decide)) h16, at_cong (hs 17 (by decide)) h17, at_cong (hs 18 (by decide)) h18, at_cong (hs 19 (by decide)) h19, at_cong (hs 20 (by decide)) h20, at_cong (hs 21 (by decide)) h21, hn⟩
/-- rows 0 to 12, packed -/
def pk (S : St) : Nat → Int32 := fun j => if j < 6 then S 0 j else if j < 12 then S 1 (j - 6) else if j < 19 then S 2 (j - 12) else if j < 26 then S 3 (j - 19) else if j < 33 then S 4 (j - 26) else if j < 40 then S 5 (j - 33) else if j < 47 then S 6 (j - 40) else if j < 52 then S 7 (j - 47) else if j < 57 then S 8 (j - 52) else if j < 62 then S 9 (j - 57) else if j < 67 then S 10 (j - 62) else if j < 73 then S 11 (j - 67) else if j < 74 then S 12 0 else if j < 75 then S 12 1 else if j < 76 then S 12 2 else S 12 3
def KP (T S : St) (kk : Nat) (Q : Nat → Prop) : Prop := (∀ k, k ≠ kk → T k = S k) ∧ ∀ j, Q j → T kk j = pk S j
theorem KP.put {T S : St} {kk : Nat} {Q : Nat → Prop} (h : KP T S kk Q) (j0 : Nat) {v : Int32} (hv : v = pk S j0) : KP (sw T kk j0 v) S kk (fun j => Q j ∨ j = j0) := by
  refine ⟨fun k hk => by rw [sw_ne _ _ _ hk]; exact h.1 k hk, fun j hj => ?_⟩
  rw [swv]
  by_cases e : j = j0
  · rw [if_pos ⟨rfl, e⟩, hv, e]
  · rw [if_neg (fun q => e q.2)]
    exact h.2 j (hj.resolve_right e)
theorem KP.mono {T S : St} {kk : Nat} {Q Q' : Nat → Prop} (h : KP T S kk Q) (hQ : ∀ j, Q' j → Q j) : KP T S kk Q' := ⟨h.1, fun j hj => h.2 j (hQ j hj)⟩
theorem KP.end {T S : St} {kk : Nat} {Z : ZZ} {h : Nat} {q : Nat → Nat} (hk : kk = 17 ∨ kk = 18) (hT : KP T S kk (fun j => j < 77)) : Same Z (wM Z h q T) (wM Z h q (sr S kk (pk S))) := by
  refine same_M (fun k _ j hj => ?_)
  by_cases e : k = kk
  · subst e
    rw [sr_eq]
    refine hT.2 j ?_
    rcases hk with rfl | rfl <;> exact hj
  · rw [sr_ne _ _ e, hT.1 k e]
theorem pk_0 (S : St) {r : Nat} (h : r < 6) : pk S r = S 0 r := if_pos h
theorem pk_1 (S : St) {r : Nat} (h : r < 6) : pk S (6 + r) = S 1 r := by
  unfold pk
  rw [if_neg (by omega)]
  rw [if_pos (by omega), show 6 + r - 6 = r by omega]
theorem pk_2 (S : St) {r : Nat} (h : r < 7) : pk S (12 + r) = S 2 r := by
  unfold pk
  rw [if_neg (by omega)]
  rw [if_neg (by omega)]
  rw [if_pos (by omega), show 12 + r - 12 = r by omega]
theorem pk_3 (S : St) {r : Nat} (h : r < 7) : pk S (19 + r) = S 3 r := by
  unfold pk
  rw [if_neg (by omega)]
  rw [if_neg (by omega)]
  rw [if_neg (by omega)]
  rw [if_pos (by omega), show 19 + r - 19 = r by omega]
theorem pk_4 (S : St) {r : Nat} (h : r < 7) : pk S (26 + r) = S 4 r := by
  unfold pk
  rw [if_neg (by omega)]
  rw [if_neg (by omega)]
  rw [if_neg (by omega)]
  rw [if_neg (by omega)]
  rw [if_pos (by omega), show 26 + r - 26 = r by omega]
theorem pk_5 (S : St) {r : Nat} (h : r < 7) : pk S (33 + r) = S 5 r := by
  unfold pk
  rw [if_neg (by omega)]
  rw [if_neg (by omega)]
  rw [if_neg (by omega)]
  rw [if_neg (by omega)]
  rw [if_neg (by omega)]
  rw [if_pos (by omega), show 33 + r - 33 = r by omega]
theorem pk_6 (S : St) {r : Nat} (h : r < 7) : pk S (40 + r) = S 6 r := by
  unfold pk
  rw [if_neg (by omega)]
  rw [if_neg (by omega)]
  rw [if_neg (by omega)]
  rw [if_neg (by omega)]
  rw [if_neg (by omega)]
  rw [if_neg (by omega)]
  rw [if_pos (by omega), show 40 + r - 40 = r by omega]
theorem pk_7 (S : St) {r : Nat} (h : r < 5) : pk S (47 + r) = S 7 r := by
  unfold pk
  rw [if_neg (by omega)]
  rw [if_neg (by omega)]
  rw [if_neg (by omega)]
  rw [if_neg (by omega)]
  rw [if_neg (by omega)]
  rw [if_neg (by omega)]
  rw [if_neg (by omega)]
  rw [if_pos (by omega), show 47 + r - 47 = r by omega]
theorem pk_8 (S : St) {r : Nat} (h : r < 5) : pk S (52 + r) = S 8 r := by
  unfold pk
  rw [if_neg (by omega)]
  rw [if_neg (by omega)]
  rw [if_neg (by omega)]
  rw [if_neg (by omega)]
  rw [if_neg (by omega)]
  rw [if_neg (by omega)]
  rw [if_neg (by omega)]
  rw [if_neg (by omega)]
  rw [if_pos (by omega), show 52 + r - 52 = r by omega]
theorem pk_9 (S : St) {r : Nat} (h : r < 5) : pk S (57 + r) = S 9 r := by
  unfold pk
  rw [if_neg (by omega)]
  rw [if_neg (by omega)]
  rw [if_neg (by omega)]
  rw [if_neg (by omega)]
  rw [if_neg (by omega)]
  rw [if_neg (by omega)]
  rw [if_neg (by omega)]
  rw [if_neg (by omega)]
  rw [if_neg (by omega)]
  rw [if_pos (by omega), show 57 + r - 57 = r by omega]
theorem pk_10 (S : St) {r : Nat} (h : r < 5) : pk S (62 + r) = S 10 r := by
  unfold pk
  rw [if_neg (by omega)]
  rw [if_neg (by omega)]
  rw [if_neg (by omega)]
  rw [if_neg (by omega)]
  rw [if_neg (by omega)]
  rw [if_neg (by omega)]
  rw [if_neg (by omega)]
  rw [if_neg (by omega)]
  rw [if_neg (by omega)]
  rw [if_neg (by omega)]
  rw [if_pos (by omega), show 62 + r - 62 = r by omega]
theorem pk_11 (S : St) {r : Nat} (h : r < 6) : pk S (67 + r) = S 11 r := by
  unfold pk
  rw [if_neg (by omega)]
  rw [if_neg (by omega)]
  rw [if_neg (by omega)]
  rw [if_neg (by omega)]
  rw [if_neg (by omega)]
  rw [if_neg (by omega)]
  rw [if_neg (by omega)]
  rw [if_neg (by omega)]
  rw [if_neg (by omega)]
  rw [if_neg (by omega)]
  rw [if_neg (by omega)]
  rw [if_pos (by omega), show 67 + r - 67 = r by omega]
set_option maxHeartbeats 2000000 in
set_option maxRecDepth 20000 in
theorem con_M_keep_17 (l : Launch) (Z : ZZ) (h : Nat) (q : Nat → Nat) (S : St) : Con l Z yM_keep cM_keep 3 none 0 [.ref h, .ref (q 17)] (wM Z h q S) (Fn none (wM Z h q (sr S 17 (pk S)))) := by
  refine Con.of (by decide) (Nat.le_of_ble_eq_true rfl) (fun X hX hQ => ?_)
  show G X Z (wM Z h q S) 0 [(0, .ref h), (1, .ref (q 17))] []
  refine g_iconst (v := 0) hX dM_keep_0 (by decide) ?_
  refine g_istore_n (lv1 := [(0, .ref h), (1, .ref (q 17)), (2, .int 0)]) hX dM_keep_1 (by decide) [1, 2, 0] rfl ?_
  have hL_2 : ∀ r0, r0 ≤ 6 → ∀ (Tr0 : St), KP Tr0 S 17 (fun j => j < r0 ∨ (6 ≤ j ∧ j < 6 + r0) ∨ (67 ≤ j ∧ j < 67 + r0)) → G X Z (wM Z h q Tr0) 2 [(0, .ref h), (1, .ref (q 17)), (2, .int (nI r0))] [] := by
    refine loopUp _ 6 ?_ (fun r0 hi_r0 ih_r0 => ?_)
    · intro Tr0 hq_r0
      refine g_iload_n hX dM_keep_2 2 rfl ?_
      refine g_bipush (v := 6) hX dM_keep_3 (by decide) ?_
      refine g_icmp_ge hX 47 dM_keep_5 (by decide) (fun c_5 => ?_) (fun c_5 => absurd (nI_le (a := 6) (b := 6) (Nat.le_refl _) (by omega)) c_5)
      refine g_iconst (v := 0) hX dM_keep_47 (by decide) ?_
      refine g_istore_n (lv1 := [(0, .ref h), (1, .ref (q 17)), (2, .int 0)]) hX dM_keep_48 (by decide) [1, 2, 0] rfl ?_
      have hL_49 : ∀ r1, r1 ≤ 7 → ∀ (Tr1 : St), KP Tr1 S 17 (fun j => j < 6 ∨ (6 ≤ j ∧ j < 6 + 6) ∨ (67 ≤ j ∧ j < 67 + 6) ∨ (12 ≤ j ∧ j < 12 + r1) ∨ (19 ≤ j ∧ j < 19 + r1) ∨ (26 ≤ j ∧ j < 26 + r1) ∨ (33 ≤ j ∧ j < 33 + r1) ∨ (40 ≤ j ∧ j < 40 + r1)) → G X Z (wM Z h q Tr1) 49 [(0, .ref h), (1, .ref (q 17)), (2, .int (nI r1))] [] := by
        refine loopUp _ 7 ?_ (fun r1 hi_r1 ih_r1 => ?_)
        · intro Tr1 hq_r1
          refine g_iload_n hX dM_keep_49 2 rfl ?_
          refine g_bipush (v := 7) hX dM_keep_50 (by decide) ?_
          refine g_icmp_ge hX 121 dM_keep_52 (by decide) (fun c_52 => ?_) (fun c_52 => absurd (nI_le (a := 7) (b := 7) (Nat.le_refl _) (by omega)) c_52)
          refine g_iconst (v := 0) hX dM_keep_121 (by decide) ?_
          refine g_istore_n (lv1 := [(0, .ref h), (1, .ref (q 17)), (2, .int 0)]) hX dM_keep_122 (by decide) [1, 2, 0] rfl ?_
          have hL_123 : ∀ r2, r2 ≤ 5 → ∀ (Tr2 : St), KP Tr2 S 17 (fun j => j < 6 ∨ (6 ≤ j ∧ j < 6 + 6) ∨ (67 ≤ j ∧ j < 67 + 6) ∨ (12 ≤ j ∧ j < 12 + 7) ∨ (19 ≤ j ∧ j < 19 + 7) ∨ (26 ≤ j ∧ j < 26 + 7) ∨ (33 ≤ j ∧ j < 33 + 7) ∨ (40 ≤ j ∧ j < 40 + 7) ∨ (47 ≤ j ∧ j < 47 + r2) ∨ (52 ≤ j ∧ j < 52 + r2) ∨ (57 ≤ j ∧ j < 57 + r2) ∨ (62 ≤ j ∧ j < 62 + r2)) → G X Z (wM Z h q Tr2) 123 [(0, .ref h), (1, .ref (q 17)), (2, .int (nI r2))] [] := by
            refine loopUp _ 5 ?_ (fun r2 hi_r2 ih_r2 => ?_)
            · intro Tr2 hq_r2
              refine g_iload_n hX dM_keep_123 2 rfl ?_
              refine g_iconst (v := 5) hX dM_keep_124 (by decide) ?_
              refine g_icmp_ge hX 182 dM_keep_125 (by decide) (fun c_125 => ?_) (fun c_125 => absurd (nI_le (a := 5) (b := 5) (Nat.le_refl _) (by omega)) c_125)
              refine g_aload_n hX dM_keep_182 1 rfl ?_
              refine g_bipush (v := 73) hX dM_keep_183 (by decide) ?_
              refine g_aload_n hX dM_keep_185 0 rfl ?_
              refine g_get hX 0 rfl rfl 2 (by decide) uu_M q_586 rfl rfl dM_keep_186 ?_
              refine g_top (y := (S 12 0)) (by first | exact congrFun (hq_r2.1 12 (by decide)) _ | (simp only [sw_ne, ne_eq, Nat.reduceEqDiff, not_false_eq_true]; exact congrFun (hq_r2.1 12 (by decide)) _)) ?_
              refine g_ast (ws1 := wM Z h q (sw Tr2 17 73 (S 12 0))) hX 17 rfl 73 (by omega) (by decide) (rfl) dM_keep_189 (setM_S_17 Z h q Tr2 73 (S 12 0)) ?_
              refine g_aload_n hX dM_keep_190 1 rfl ?_
              refine g_bipush (v := 74) hX dM_keep_191 (by decide) ?_
              refine g_aload_n hX dM_keep_193 0 rfl ?_
              refine g_get hX 0 rfl rfl 8 (by decide) uu_M q_592 rfl rfl dM_keep_194 ?_
              refine g_top (y := (S 12 1)) (by first | exact congrFun (hq_r2.1 12 (by decide)) _ | (simp only [sw_ne, ne_eq, Nat.reduceEqDiff, not_false_eq_true]; exact congrFun (hq_r2.1 12 (by decide)) _)) ?_
              refine g_ast (ws1 := wM Z h q (sw (sw Tr2 17 73 (S 12 0)) 17 74 (S 12 1))) hX 17 rfl 74 (by omega) (by decide) (rfl) dM_keep_197 (setM_S_17 Z h q (sw Tr2 17 73 (S 12 0)) 74 (S 12 1)) ?_
              refine g_aload_n hX dM_keep_198 1 rfl ?_
              refine g_bipush (v := 75) hX dM_keep_199 (by decide) ?_
              refine g_aload_n hX dM_keep_201 0 rfl ?_
              refine g_get hX 0 rfl rfl 13 (by decide) uu_M q_597 rfl rfl dM_keep_202 ?_
              refine g_top (y := (S 12 2)) (by first | exact congrFun (hq_r2.1 12 (by decide)) _ | (simp only [sw_ne, ne_eq, Nat.reduceEqDiff, not_false_eq_true]; exact congrFun (hq_r2.1 12 (by decide)) _)) ?_
              refine g_ast (ws1 := wM Z h q (sw (sw (sw Tr2 17 73 (S 12 0)) 17 74 (S 12 1)) 17 75 (S 12 2))) hX 17 rfl 75 (by omega) (by decide) (rfl) dM_keep_205 (setM_S_17 Z h q (sw (sw Tr2 17 73 (S 12 0)) 17 74 (S 12 1)) 75 (S 12 2)) ?_
              refine g_aload_n hX dM_keep_206 1 rfl ?_
              refine g_bipush (v := 76) hX dM_keep_207 (by decide) ?_
              refine g_aload_n hX dM_keep_209 0 rfl ?_
              refine g_get hX 0 rfl rfl 15 (by decide) uu_M q_599 rfl rfl dM_keep_210 ?_
              refine g_top (y := (S 12 3)) (by first | exact congrFun (hq_r2.1 12 (by decide)) _ | (simp only [sw_ne, ne_eq, Nat.reduceEqDiff, not_false_eq_true]; exact congrFun (hq_r2.1 12 (by decide)) _)) ?_
              refine g_ast (ws1 := wM Z h q (sw (sw (sw (sw Tr2 17 73 (S 12 0)) 17 74 (S 12 1)) 17 75 (S 12 2)) 17 76 (S 12 3))) hX 17 rfl 76 (by omega) (by decide) (rfl) dM_keep_213 (setM_S_17 Z h q (sw (sw (sw Tr2 17 73 (S 12 0)) 17 74 (S 12 1)) 17 75 (S 12 2)) 76 (S 12 3)) ?_
              refine g_same (ws1 := wM Z h q (sr S 17 (pk S))) (KP.end (by decide) (((((hq_r2.put 73 (v := S 12 0) rfl).put 74 (v := S 12 1) rfl).put 75 (v := S 12 2) rfl).put 76 (v := S 12 3) rfl).mono (fun j hj => by omega))) ?_
              exact r_vret hX hQ dM_keep_214 keysM (⟨rfl, rfl⟩)
            · intro Tr2 hq_r2
              refine g_iload_n hX dM_keep_123 2 rfl ?_
              refine g_iconst (v := 5) hX dM_keep_124 (by decide) ?_
              refine g_icmp_ge hX 182 dM_keep_125 (by decide) (fun c_125 => absurd c_125 (nI_ge (a := r2) (b := 5) hi_r2 (by omega))) (fun c_125 => ?_)
              refine g_aload_n hX dM_keep_128 1 rfl ?_
              refine g_bipush (v := 47) hX dM_keep_129 (by decide) ?_
              refine g_iload_n hX dM_keep_131 2 rfl ?_
              refine g_iadd (z := (nI (47 + r2))) hX dM_keep_132 (nI_add 47 r2) ?_
              refine g_aload_n hX dM_keep_133 0 rfl ?_
              refine g_get hX 0 rfl rfl 9 (by decide) uu_M q_593 rfl rfl dM_keep_134 ?_
              refine g_iload_n hX dM_keep_137 2 rfl ?_
              refine g_ald (v := (S 7 r2)) hX 8 rfl r2 (by omega) (by decide) (rfl) (by first | exact congrFun (hq_r2.1 7 (by decide)) _ | (simp only [sw_ne, ne_eq, Nat.reduceEqDiff, not_false_eq_true]; exact congrFun (hq_r2.1 7 (by decide)) _)) dM_keep_138 ?_
              refine g_ast (ws1 := wM Z h q (sw Tr2 17 (47 + r2) (S 7 r2))) hX 17 rfl (47 + r2) (by omega) (by decide) (rfl) dM_keep_139 (setM_S_17 Z h q Tr2 (47 + r2) (S 7 r2)) ?_
              refine g_aload_n hX dM_keep_140 1 rfl ?_
              refine g_bipush (v := 52) hX dM_keep_141 (by decide) ?_
              refine g_iload_n hX dM_keep_143 2 rfl ?_
              refine g_iadd (z := (nI (52 + r2))) hX dM_keep_144 (nI_add 52 r2) ?_
              refine g_aload_n hX dM_keep_145 0 rfl ?_
              refine g_get hX 0 rfl rfl 10 (by decide) uu_M q_594 rfl rfl dM_keep_146 ?_
              refine g_iload_n hX dM_keep_149 2 rfl ?_
              refine g_ald (v := (S 8 r2)) hX 9 rfl r2 (by omega) (by decide) (rfl) (by first | exact congrFun (hq_r2.1 8 (by decide)) _ | (simp only [sw_ne, ne_eq, Nat.reduceEqDiff, not_false_eq_true]; exact congrFun (hq_r2.1 8 (by decide)) _)) dM_keep_150 ?_
              refine g_ast (ws1 := wM Z h q (sw (sw Tr2 17 (47 + r2) (S 7 r2)) 17 (52 + r2) (S 8 r2))) hX 17 rfl (52 + r2) (by omega) (by decide) (rfl) dM_keep_151 (setM_S_17 Z h q (sw Tr2 17 (47 + r2) (S 7 r2)) (52 + r2) (S 8 r2)) ?_
              refine g_aload_n hX dM_keep_152 1 rfl ?_
              refine g_bipush (v := 57) hX dM_keep_153 (by decide) ?_
              refine g_iload_n hX dM_keep_155 2 rfl ?_
              refine g_iadd (z := (nI (57 + r2))) hX dM_keep_156 (nI_add 57 r2) ?_
              refine g_aload_n hX dM_keep_157 0 rfl ?_
              refine g_get hX 0 rfl rfl 11 (by decide) uu_M q_595 rfl rfl dM_keep_158 ?_
              refine g_iload_n hX dM_keep_161 2 rfl ?_
              refine g_ald (v := (S 9 r2)) hX 10 rfl r2 (by omega) (by decide) (rfl) (by first | exact congrFun (hq_r2.1 9 (by decide)) _ | (simp only [sw_ne, ne_eq, Nat.reduceEqDiff, not_false_eq_true]; exact congrFun (hq_r2.1 9 (by decide)) _)) dM_keep_162 ?_
              refine g_ast (ws1 := wM Z h q (sw (sw (sw Tr2 17 (47 + r2) (S 7 r2)) 17 (52 + r2) (S 8 r2)) 17 (57 + r2) (S 9 r2))) hX 17 rfl (57 + r2) (by omega) (by decide) (rfl) dM_keep_163 (setM_S_17 Z h q (sw (sw Tr2 17 (47 + r2) (S 7 r2)) 17 (52 + r2) (S 8 r2)) (57 + r2) (S 9 r2)) ?_
              refine g_aload_n hX dM_keep_164 1 rfl ?_
              refine g_bipush (v := 62) hX dM_keep_165 (by decide) ?_
              refine g_iload_n hX dM_keep_167 2 rfl ?_
              refine g_iadd (z := (nI (62 + r2))) hX dM_keep_168 (nI_add 62 r2) ?_
              refine g_aload_n hX dM_keep_169 0 rfl ?_
              refine g_get hX 0 rfl rfl 12 (by decide) uu_M q_596 rfl rfl dM_keep_170 ?_
              refine g_iload_n hX dM_keep_173 2 rfl ?_
              refine g_ald (v := (S 10 r2)) hX 11 rfl r2 (by omega) (by decide) (rfl) (by first | exact congrFun (hq_r2.1 10 (by decide)) _ | (simp only [sw_ne, ne_eq, Nat.reduceEqDiff, not_false_eq_true]; exact congrFun (hq_r2.1 10 (by decide)) _)) dM_keep_174 ?_
              refine g_ast (ws1 := wM Z h q (sw (sw (sw (sw Tr2 17 (47 + r2) (S 7 r2)) 17 (52 + r2) (S 8 r2)) 17 (57 + r2) (S 9 r2)) 17 (62 + r2) (S 10 r2))) hX 17 rfl (62 + r2) (by omega) (by decide) (rfl) dM_keep_175 (setM_S_17 Z h q (sw (sw (sw Tr2 17 (47 + r2) (S 7 r2)) 17 (52 + r2) (S 8 r2)) 17 (57 + r2) (S 9 r2)) (62 + r2) (S 10 r2)) ?_
              refine g_iinc (v := (nI (r2 + 1))) (lv1 := [(0, .ref h), (1, .ref (q 17)), (2, .int (nI (r2 + 1)))]) hX dM_keep_176 2 rfl (inc_nat _) (by decide) [1, 2, 0] rfl ?_
              refine g_goto hX 123 dM_keep_179 (by decide) ?_
              exact ih_r2 (sw (sw (sw (sw Tr2 17 (47 + r2) (S 7 r2)) 17 (52 + r2) (S 8 r2)) 17 (57 + r2) (S 9 r2)) 17 (62 + r2) (S 10 r2)) (((((hq_r2.put (47 + r2) (v := S 7 r2) (pk_7 S (by omega)).symm).put (52 + r2) (v := S 8 r2) (pk_8 S (by omega)).symm).put (57 + r2) (v := S 9 r2) (pk_9 S (by omega)).symm).put (62 + r2) (v := S 10 r2) (pk_10 S (by omega)).symm).mono (fun j hj => by omega))
          exact hL_123 0 (Nat.zero_le _) Tr1 (hq_r1.mono (fun j hj => by omega))
        · intro Tr1 hq_r1
          refine g_iload_n hX dM_keep_49 2 rfl ?_
          refine g_bipush (v := 7) hX dM_keep_50 (by decide) ?_
          refine g_icmp_ge hX 121 dM_keep_52 (by decide) (fun c_52 => absurd c_52 (nI_ge (a := r1) (b := 7) hi_r1 (by omega))) (fun c_52 => ?_)
          refine g_aload_n hX dM_keep_55 1 rfl ?_
          refine g_bipush (v := 12) hX dM_keep_56 (by decide) ?_
          refine g_iload_n hX dM_keep_58 2 rfl ?_
          refine g_iadd (z := (nI (12 + r1))) hX dM_keep_59 (nI_add 12 r1) ?_
          refine g_aload_n hX dM_keep_60 0 rfl ?_
          refine g_get hX 0 rfl rfl 3 (by decide) uu_M q_587 rfl rfl dM_keep_61 ?_
          refine g_iload_n hX dM_keep_64 2 rfl ?_
          refine g_ald (v := (S 2 r1)) hX 3 rfl r1 (by omega) (by decide) (rfl) (by first | exact congrFun (hq_r1.1 2 (by decide)) _ | (simp only [sw_ne, ne_eq, Nat.reduceEqDiff, not_false_eq_true]; exact congrFun (hq_r1.1 2 (by decide)) _)) dM_keep_65 ?_
          refine g_ast (ws1 := wM Z h q (sw Tr1 17 (12 + r1) (S 2 r1))) hX 17 rfl (12 + r1) (by omega) (by decide) (rfl) dM_keep_66 (setM_S_17 Z h q Tr1 (12 + r1) (S 2 r1)) ?_
          refine g_aload_n hX dM_keep_67 1 rfl ?_
          refine g_bipush (v := 19) hX dM_keep_68 (by decide) ?_
          refine g_iload_n hX dM_keep_70 2 rfl ?_
          refine g_iadd (z := (nI (19 + r1))) hX dM_keep_71 (nI_add 19 r1) ?_
          refine g_aload_n hX dM_keep_72 0 rfl ?_
          refine g_get hX 0 rfl rfl 4 (by decide) uu_M q_588 rfl rfl dM_keep_73 ?_
          refine g_iload_n hX dM_keep_76 2 rfl ?_
          refine g_ald (v := (S 3 r1)) hX 4 rfl r1 (by omega) (by decide) (rfl) (by first | exact congrFun (hq_r1.1 3 (by decide)) _ | (simp only [sw_ne, ne_eq, Nat.reduceEqDiff, not_false_eq_true]; exact congrFun (hq_r1.1 3 (by decide)) _)) dM_keep_77 ?_
          refine g_ast (ws1 := wM Z h q (sw (sw Tr1 17 (12 + r1) (S 2 r1)) 17 (19 + r1) (S 3 r1))) hX 17 rfl (19 + r1) (by omega) (by decide) (rfl) dM_keep_78 (setM_S_17 Z h q (sw Tr1 17 (12 + r1) (S 2 r1)) (19 + r1) (S 3 r1)) ?_
          refine g_aload_n hX dM_keep_79 1 rfl ?_
          refine g_bipush (v := 26) hX dM_keep_80 (by decide) ?_
          refine g_iload_n hX dM_keep_82 2 rfl ?_
          refine g_iadd (z := (nI (26 + r1))) hX dM_keep_83 (nI_add 26 r1) ?_
          refine g_aload_n hX dM_keep_84 0 rfl ?_
          refine g_get hX 0 rfl rfl 5 (by decide) uu_M q_589 rfl rfl dM_keep_85 ?_
          refine g_iload_n hX dM_keep_88 2 rfl ?_
          refine g_ald (v := (S 4 r1)) hX 5 rfl r1 (by omega) (by decide) (rfl) (by first | exact congrFun (hq_r1.1 4 (by decide)) _ | (simp only [sw_ne, ne_eq, Nat.reduceEqDiff, not_false_eq_true]; exact congrFun (hq_r1.1 4 (by decide)) _)) dM_keep_89 ?_
          refine g_ast (ws1 := wM Z h q (sw (sw (sw Tr1 17 (12 + r1) (S 2 r1)) 17 (19 + r1) (S 3 r1)) 17 (26 + r1) (S 4 r1))) hX 17 rfl (26 + r1) (by omega) (by decide) (rfl) dM_keep_90 (setM_S_17 Z h q (sw (sw Tr1 17 (12 + r1) (S 2 r1)) 17 (19 + r1) (S 3 r1)) (26 + r1) (S 4 r1)) ?_
          refine g_aload_n hX dM_keep_91 1 rfl ?_
          refine g_bipush (v := 33) hX dM_keep_92 (by decide) ?_
          refine g_iload_n hX dM_keep_94 2 rfl ?_
          refine g_iadd (z := (nI (33 + r1))) hX dM_keep_95 (nI_add 33 r1) ?_
          refine g_aload_n hX dM_keep_96 0 rfl ?_
          refine g_get hX 0 rfl rfl 6 (by decide) uu_M q_590 rfl rfl dM_keep_97 ?_
          refine g_iload_n hX dM_keep_100 2 rfl ?_
          refine g_ald (v := (S 5 r1)) hX 6 rfl r1 (by omega) (by decide) (rfl) (by first | exact congrFun (hq_r1.1 5 (by decide)) _ | (simp only [sw_ne, ne_eq, Nat.reduceEqDiff, not_false_eq_true]; exact congrFun (hq_r1.1 5 (by decide)) _)) dM_keep_101 ?_
          refine g_ast (ws1 := wM Z h q (sw (sw (sw (sw Tr1 17 (12 + r1) (S 2 r1)) 17 (19 + r1) (S 3 r1)) 17 (26 + r1) (S 4 r1)) 17 (33 + r1) (S 5 r1))) hX 17 rfl (33 + r1) (by omega) (by decide) (rfl) dM_keep_102 (setM_S_17 Z h q (sw (sw (sw Tr1 17 (12 + r1) (S 2 r1)) 17 (19 + r1) (S 3 r1)) 17 (26 + r1) (S 4 r1)) (33 + r1) (S 5 r1)) ?_
          refine g_aload_n hX dM_keep_103 1 rfl ?_
          refine g_bipush (v := 40) hX dM_keep_104 (by decide) ?_
          refine g_iload_n hX dM_keep_106 2 rfl ?_
          refine g_iadd (z := (nI (40 + r1))) hX dM_keep_107 (nI_add 40 r1) ?_
          refine g_aload_n hX dM_keep_108 0 rfl ?_
          refine g_get hX 0 rfl rfl 7 (by decide) uu_M q_591 rfl rfl dM_keep_109 ?_
          refine g_iload_n hX dM_keep_112 2 rfl ?_
          refine g_ald (v := (S 6 r1)) hX 7 rfl r1 (by omega) (by decide) (rfl) (by first | exact congrFun (hq_r1.1 6 (by decide)) _ | (simp only [sw_ne, ne_eq, Nat.reduceEqDiff, not_false_eq_true]; exact congrFun (hq_r1.1 6 (by decide)) _)) dM_keep_113 ?_
          refine g_ast (ws1 := wM Z h q (sw (sw (sw (sw (sw Tr1 17 (12 + r1) (S 2 r1)) 17 (19 + r1) (S 3 r1)) 17 (26 + r1) (S 4 r1)) 17 (33 + r1) (S 5 r1)) 17 (40 + r1) (S 6 r1))) hX 17 rfl (40 + r1) (by omega) (by decide) (rfl) dM_keep_114 (setM_S_17 Z h q (sw (sw (sw (sw Tr1 17 (12 + r1) (S 2 r1)) 17 (19 + r1) (S 3 r1)) 17 (26 + r1) (S 4 r1)) 17 (33 + r1) (S 5 r1)) (40 + r1) (S 6 r1)) ?_
          refine g_iinc (v := (nI (r1 + 1))) (lv1 := [(0, .ref h), (1, .ref (q 17)), (2, .int (nI (r1 + 1)))]) hX dM_keep_115 2 rfl (inc_nat _) (by decide) [1, 2, 0] rfl ?_
          refine g_goto hX 49 dM_keep_118 (by decide) ?_
          exact ih_r1 (sw (sw (sw (sw (sw Tr1 17 (12 + r1) (S 2 r1)) 17 (19 + r1) (S 3 r1)) 17 (26 + r1) (S 4 r1)) 17 (33 + r1) (S 5 r1)) 17 (40 + r1) (S 6 r1)) ((((((hq_r1.put (12 + r1) (v := S 2 r1) (pk_2 S (by omega)).symm).put (19 + r1) (v := S 3 r1) (pk_3 S (by omega)).symm).put (26 + r1) (v := S 4 r1) (pk_4 S (by omega)).symm).put (33 + r1) (v := S 5 r1) (pk_5 S (by omega)).symm).put (40 + r1) (v := S 6 r1) (pk_6 S (by omega)).symm).mono (fun j hj => by omega))
      exact hL_49 0 (Nat.zero_le _) Tr0 (hq_r0.mono (fun j hj => by omega))
    · intro Tr0 hq_r0
      refine g_iload_n hX dM_keep_2 2 rfl ?_
      refine g_bipush (v := 6) hX dM_keep_3 (by decide) ?_
      refine g_icmp_ge hX 47 dM_keep_5 (by decide) (fun c_5 => absurd c_5 (nI_ge (a := r0) (b := 6) hi_r0 (by omega))) (fun c_5 => ?_)
      refine g_aload_n hX dM_keep_8 1 rfl ?_
      refine g_iload_n hX dM_keep_9 2 rfl ?_
      refine g_aload_n hX dM_keep_10 0 rfl ?_
      refine g_get hX 0 rfl rfl 0 (by decide) uu_M q_584 rfl rfl dM_keep_11 ?_
      refine g_iload_n hX dM_keep_14 2 rfl ?_
      refine g_ald (v := (S 0 r0)) hX 1 rfl r0 (by omega) (by decide) (rfl) (by first | exact congrFun (hq_r0.1 0 (by decide)) _ | (simp only [sw_ne, ne_eq, Nat.reduceEqDiff, not_false_eq_true]; exact congrFun (hq_r0.1 0 (by decide)) _)) dM_keep_15 ?_
      refine g_ast (ws1 := wM Z h q (sw Tr0 17 r0 (S 0 r0))) hX 17 rfl r0 (by omega) (by decide) (rfl) dM_keep_16 (setM_S_17 Z h q Tr0 r0 (S 0 r0)) ?_
      refine g_aload_n hX dM_keep_17 1 rfl ?_
      refine g_bipush (v := 6) hX dM_keep_18 (by decide) ?_
      refine g_iload_n hX dM_keep_20 2 rfl ?_
      refine g_iadd (z := (nI (6 + r0))) hX dM_keep_21 (nI_add 6 r0) ?_
      refine g_aload_n hX dM_keep_22 0 rfl ?_
      refine g_get hX 0 rfl rfl 1 (by decide) uu_M q_585 rfl rfl dM_keep_23 ?_
      refine g_iload_n hX dM_keep_26 2 rfl ?_
      refine g_ald (v := (S 1 r0)) hX 2 rfl r0 (by omega) (by decide) (rfl) (by first | exact congrFun (hq_r0.1 1 (by decide)) _ | (simp only [sw_ne, ne_eq, Nat.reduceEqDiff, not_false_eq_true]; exact congrFun (hq_r0.1 1 (by decide)) _)) dM_keep_27 ?_
      refine g_ast (ws1 := wM Z h q (sw (sw Tr0 17 r0 (S 0 r0)) 17 (6 + r0) (S 1 r0))) hX 17 rfl (6 + r0) (by omega) (by decide) (rfl) dM_keep_28 (setM_S_17 Z h q (sw Tr0 17 r0 (S 0 r0)) (6 + r0) (S 1 r0)) ?_
      refine g_aload_n hX dM_keep_29 1 rfl ?_
      refine g_bipush (v := 67) hX dM_keep_30 (by decide) ?_
      refine g_iload_n hX dM_keep_32 2 rfl ?_
      refine g_iadd (z := (nI (67 + r0))) hX dM_keep_33 (nI_add 67 r0) ?_
      refine g_aload_n hX dM_keep_34 0 rfl ?_
      refine g_get hX 0 rfl rfl 14 (by decide) uu_M q_598 rfl rfl dM_keep_35 ?_
      refine g_iload_n hX dM_keep_38 2 rfl ?_
      refine g_ald (v := (S 11 r0)) hX 12 rfl r0 (by omega) (by decide) (rfl) (by first | exact congrFun (hq_r0.1 11 (by decide)) _ | (simp only [sw_ne, ne_eq, Nat.reduceEqDiff, not_false_eq_true]; exact congrFun (hq_r0.1 11 (by decide)) _)) dM_keep_39 ?_
      refine g_ast (ws1 := wM Z h q (sw (sw (sw Tr0 17 r0 (S 0 r0)) 17 (6 + r0) (S 1 r0)) 17 (67 + r0) (S 11 r0))) hX 17 rfl (67 + r0) (by omega) (by decide) (rfl) dM_keep_40 (setM_S_17 Z h q (sw (sw Tr0 17 r0 (S 0 r0)) 17 (6 + r0) (S 1 r0)) (67 + r0) (S 11 r0)) ?_
      refine g_iinc (v := (nI (r0 + 1))) (lv1 := [(0, .ref h), (1, .ref (q 17)), (2, .int (nI (r0 + 1)))]) hX dM_keep_41 2 rfl (inc_nat _) (by decide) [1, 2, 0] rfl ?_
      refine g_goto hX 2 dM_keep_44 (by decide) ?_
      exact ih_r0 (sw (sw (sw Tr0 17 r0 (S 0 r0)) 17 (6 + r0) (S 1 r0)) 17 (67 + r0) (S 11 r0)) ((((hq_r0.put r0 (v := S 0 r0) (pk_0 S (by omega)).symm).put (6 + r0) (v := S 1 r0) (pk_1 S (by omega)).symm).put (67 + r0) (v := S 11 r0) (pk_11 S (by omega)).symm).mono (fun j hj => by omega))
  exact hL_2 0 (Nat.zero_le _) S (⟨fun _ _ => rfl, fun j hj => by omega⟩)
set_option maxHeartbeats 2000000 in
set_option maxRecDepth 20000 in
theorem con_M_keep_18 (l : Launch) (Z : ZZ) (h : Nat) (q : Nat → Nat) (S : St) : Con l Z yM_keep cM_keep 3 none 0 [.ref h, .ref (q 18)] (wM Z h q S) (Fn none (wM Z h q (sr S 18 (pk S)))) := by
  refine Con.of (by decide) (Nat.le_of_ble_eq_true rfl) (fun X hX hQ => ?_)
  show G X Z (wM Z h q S) 0 [(0, .ref h), (1, .ref (q 18))] []
  refine g_iconst (v := 0) hX dM_keep_0 (by decide) ?_
  refine g_istore_n (lv1 := [(0, .ref h), (1, .ref (q 18)), (2, .int 0)]) hX dM_keep_1 (by decide) [1, 2, 0] rfl ?_
  have hL_2 : ∀ r0, r0 ≤ 6 → ∀ (Tr0 : St), KP Tr0 S 18 (fun j => j < r0 ∨ (6 ≤ j ∧ j < 6 + r0) ∨ (67 ≤ j ∧ j < 67 + r0)) → G X Z (wM Z h q Tr0) 2 [(0, .ref h), (1, .ref (q 18)), (2, .int (nI r0))] [] := by
    refine loopUp _ 6 ?_ (fun r0 hi_r0 ih_r0 => ?_)
    · intro Tr0 hq_r0
      refine g_iload_n hX dM_keep_2 2 rfl ?_
      refine g_bipush (v := 6) hX dM_keep_3 (by decide) ?_
      refine g_icmp_ge hX 47 dM_keep_5 (by decide) (fun c_5 => ?_) (fun c_5 => absurd (nI_le (a := 6) (b := 6) (Nat.le_refl _) (by omega)) c_5)
      refine g_iconst (v := 0) hX dM_keep_47 (by decide) ?_
      refine g_istore_n (lv1 := [(0, .ref h), (1, .ref (q 18)), (2, .int 0)]) hX dM_keep_48 (by decide) [1, 2, 0] rfl ?_
      have hL_49 : ∀ r1, r1 ≤ 7 → ∀ (Tr1 : St), KP Tr1 S 18 (fun j => j < 6 ∨ (6 ≤ j ∧ j < 6 + 6) ∨ (67 ≤ j ∧ j < 67 + 6) ∨ (12 ≤ j ∧ j < 12 + r1) ∨ (19 ≤ j ∧ j < 19 + r1) ∨ (26 ≤ j ∧ j < 26 + r1) ∨ (33 ≤ j ∧ j < 33 + r1) ∨ (40 ≤ j ∧ j < 40 + r1)) → G X Z (wM Z h q Tr1) 49 [(0, .ref h), (1, .ref (q 18)), (2, .int (nI r1))] [] := by
        refine loopUp _ 7 ?_ (fun r1 hi_r1 ih_r1 => ?_)
        · intro Tr1 hq_r1
          refine g_iload_n hX dM_keep_49 2 rfl ?_
          refine g_bipush (v := 7) hX dM_keep_50 (by decide) ?_
          refine g_icmp_ge hX 121 dM_keep_52 (by decide) (fun c_52 => ?_) (fun c_52 => absurd (nI_le (a := 7) (b := 7) (Nat.le_refl _) (by omega)) c_52)
          refine g_iconst (v := 0) hX dM_keep_121 (by decide) ?_
          refine g_istore_n (lv1 := [(0, .ref h), (1, .ref (q 18)), (2, .int 0)]) hX dM_keep_122 (by decide) [1, 2, 0] rfl ?_
          have hL_123 : ∀ r2, r2 ≤ 5 → ∀ (Tr2 : St), KP Tr2 S 18 (fun j => j < 6 ∨ (6 ≤ j ∧ j < 6 + 6) ∨ (67 ≤ j ∧ j < 67 + 6) ∨ (12 ≤ j ∧ j < 12 + 7) ∨ (19 ≤ j ∧ j < 19 + 7) ∨ (26 ≤ j ∧ j < 26 + 7) ∨ (33 ≤ j ∧ j < 33 + 7) ∨ (40 ≤ j ∧ j < 40 + 7) ∨ (47 ≤ j ∧ j < 47 + r2) ∨ (52 ≤ j ∧ j < 52 + r2) ∨ (57 ≤ j ∧ j < 57 + r2) ∨ (62 ≤ j ∧ j < 62 + r2)) → G X Z (wM Z h q Tr2) 123 [(0, .ref h), (1, .ref (q 18)), (2, .int (nI r2))] [] := by
            refine loopUp _ 5 ?_ (fun r2 hi_r2 ih_r2 => ?_)
            · intro Tr2 hq_r2
              refine g_iload_n hX dM_keep_123 2 rfl ?_
              refine g_iconst (v := 5) hX dM_keep_124 (by decide) ?_
              refine g_icmp_ge hX 182 dM_keep_125 (by decide) (fun c_125 => ?_) (fun c_125 => absurd (nI_le (a := 5) (b := 5) (Nat.le_refl _) (by omega)) c_125)
              refine g_aload_n hX dM_keep_182 1 rfl ?_
              refine g_bipush (v := 73) hX dM_keep_183 (by decide) ?_
              refine g_aload_n hX dM_keep_185 0 rfl ?_
              refine g_get hX 0 rfl rfl 2 (by decide) uu_M q_586 rfl rfl dM_keep_186 ?_
              refine g_top (y := (S 12 0)) (by first | exact congrFun (hq_r2.1 12 (by decide)) _ | (simp only [sw_ne, ne_eq, Nat.reduceEqDiff, not_false_eq_true]; exact congrFun (hq_r2.1 12 (by decide)) _)) ?_
              refine g_ast (ws1 := wM Z h q (sw Tr2 18 73 (S 12 0))) hX 18 rfl 73 (by omega) (by decide) (rfl) dM_keep_189 (setM_S_18 Z h q Tr2 73 (S 12 0)) ?_
              refine g_aload_n hX dM_keep_190 1 rfl ?_
              refine g_bipush (v := 74) hX dM_keep_191 (by decide) ?_
              refine g_aload_n hX dM_keep_193 0 rfl ?_
              refine g_get hX 0 rfl rfl 8 (by decide) uu_M q_592 rfl rfl dM_keep_194 ?_
              refine g_top (y := (S 12 1)) (by first | exact congrFun (hq_r2.1 12 (by decide)) _ | (simp only [sw_ne, ne_eq, Nat.reduceEqDiff, not_false_eq_true]; exact congrFun (hq_r2.1 12 (by decide)) _)) ?_
              refine g_ast (ws1 := wM Z h q (sw (sw Tr2 18 73 (S 12 0)) 18 74 (S 12 1))) hX 18 rfl 74 (by omega) (by decide) (rfl) dM_keep_197 (setM_S_18 Z h q (sw Tr2 18 73 (S 12 0)) 74 (S 12 1)) ?_
              refine g_aload_n hX dM_keep_198 1 rfl ?_
              refine g_bipush (v := 75) hX dM_keep_199 (by decide) ?_
              refine g_aload_n hX dM_keep_201 0 rfl ?_
              refine g_get hX 0 rfl rfl 13 (by decide) uu_M q_597 rfl rfl dM_keep_202 ?_
              refine g_top (y := (S 12 2)) (by first | exact congrFun (hq_r2.1 12 (by decide)) _ | (simp only [sw_ne, ne_eq, Nat.reduceEqDiff, not_false_eq_true]; exact congrFun (hq_r2.1 12 (by decide)) _)) ?_
              refine g_ast (ws1 := wM Z h q (sw (sw (sw Tr2 18 73 (S 12 0)) 18 74 (S 12 1)) 18 75 (S 12 2))) hX 18 rfl 75 (by omega) (by decide) (rfl) dM_keep_205 (setM_S_18 Z h q (sw (sw Tr2 18 73 (S 12 0)) 18 74 (S 12 1)) 75 (S 12 2)) ?_
              refine g_aload_n hX dM_keep_206 1 rfl ?_
              refine g_bipush (v := 76) hX dM_keep_207 (by decide) ?_
              refine g_aload_n hX dM_keep_209 0 rfl ?_
              refine g_get hX 0 rfl rfl 15 (by decide) uu_M q_599 rfl rfl dM_keep_210 ?_
              refine g_top (y := (S 12 3)) (by first | exact congrFun (hq_r2.1 12 (by decide)) _ | (simp only [sw_ne, ne_eq, Nat.reduceEqDiff, not_false_eq_true]; exact congrFun (hq_r2.1 12 (by decide)) _)) ?_
              refine g_ast (ws1 := wM Z h q (sw (sw (sw (sw Tr2 18 73 (S 12 0)) 18 74 (S 12 1)) 18 75 (S 12 2)) 18 76 (S 12 3))) hX 18 rfl 76 (by omega) (by decide) (rfl) dM_keep_213 (setM_S_18 Z h q (sw (sw (sw Tr2 18 73 (S 12 0)) 18 74 (S 12 1)) 18 75 (S 12 2)) 76 (S 12 3)) ?_
              refine g_same (ws1 := wM Z h q (sr S 18 (pk S))) (KP.end (by decide) (((((hq_r2.put 73 (v := S 12 0) rfl).put 74 (v := S 12 1) rfl).put 75 (v := S 12 2) rfl).put 76 (v := S 12 3) rfl).mono (fun j hj => by omega))) ?_
              exact r_vret hX hQ dM_keep_214 keysM (⟨rfl, rfl⟩)
            · intro Tr2 hq_r2
              refine g_iload_n hX dM_keep_123 2 rfl ?_
              refine g_iconst (v := 5) hX dM_keep_124 (by decide) ?_
              refine g_icmp_ge hX 182 dM_keep_125 (by decide) (fun c_125 => absurd c_125 (nI_ge (a := r2) (b := 5) hi_r2 (by omega))) (fun c_125 => ?_)
              refine g_aload_n hX dM_keep_128 1 rfl ?_
              refine g_bipush (v := 47) hX dM_keep_129 (by decide) ?_
              refine g_iload_n hX dM_keep_131 2 rfl ?_
              refine g_iadd (z := (nI (47 + r2))) hX dM_keep_132 (nI_add 47 r2) ?_
              refine g_aload_n hX dM_keep_133 0 rfl ?_
              refine g_get hX 0 rfl rfl 9 (by decide) uu_M q_593 rfl rfl dM_keep_134 ?_
              refine g_iload_n hX dM_keep_137 2 rfl ?_
              refine g_ald (v := (S 7 r2)) hX 8 rfl r2 (by omega) (by decide) (rfl) (by first | exact congrFun (hq_r2.1 7 (by decide)) _ | (simp only [sw_ne, ne_eq, Nat.reduceEqDiff, not_false_eq_true]; exact congrFun (hq_r2.1 7 (by decide)) _)) dM_keep_138 ?_
              refine g_ast (ws1 := wM Z h q (sw Tr2 18 (47 + r2) (S 7 r2))) hX 18 rfl (47 + r2) (by omega) (by decide) (rfl) dM_keep_139 (setM_S_18 Z h q Tr2 (47 + r2) (S 7 r2)) ?_
              refine g_aload_n hX dM_keep_140 1 rfl ?_
              refine g_bipush (v := 52) hX dM_keep_141 (by decide) ?_
              refine g_iload_n hX dM_keep_143 2 rfl ?_
              refine g_iadd (z := (nI (52 + r2))) hX dM_keep_144 (nI_add 52 r2) ?_
              refine g_aload_n hX dM_keep_145 0 rfl ?_
              refine g_get hX 0 rfl rfl 10 (by decide) uu_M q_594 rfl rfl dM_keep_146 ?_
              refine g_iload_n hX dM_keep_149 2 rfl ?_
              refine g_ald (v := (S 8 r2)) hX 9 rfl r2 (by omega) (by decide) (rfl) (by first | exact congrFun (hq_r2.1 8 (by decide)) _ | (simp only [sw_ne, ne_eq, Nat.reduceEqDiff, not_false_eq_true]; exact congrFun (hq_r2.1 8 (by decide)) _)) dM_keep_150 ?_
              refine g_ast (ws1 := wM Z h q (sw (sw Tr2 18 (47 + r2) (S 7 r2)) 18 (52 + r2) (S 8 r2))) hX 18 rfl (52 + r2) (by omega) (by decide) (rfl) dM_keep_151 (setM_S_18 Z h q (sw Tr2 18 (47 + r2) (S 7 r2)) (52 + r2) (S 8 r2)) ?_
              refine g_aload_n hX dM_keep_152 1 rfl ?_
              refine g_bipush (v := 57) hX dM_keep_153 (by decide) ?_
              refine g_iload_n hX dM_keep_155 2 rfl ?_
              refine g_iadd (z := (nI (57 + r2))) hX dM_keep_156 (nI_add 57 r2) ?_
              refine g_aload_n hX dM_keep_157 0 rfl ?_
              refine g_get hX 0 rfl rfl 11 (by decide) uu_M q_595 rfl rfl dM_keep_158 ?_
              refine g_iload_n hX dM_keep_161 2 rfl ?_
              refine g_ald (v := (S 9 r2)) hX 10 rfl r2 (by omega) (by decide) (rfl) (by first | exact congrFun (hq_r2.1 9 (by decide)) _ | (simp only [sw_ne, ne_eq, Nat.reduceEqDiff, not_false_eq_true]; exact congrFun (hq_r2.1 9 (by decide)) _)) dM_keep_162 ?_
              refine g_ast (ws1 := wM Z h q (sw (sw (sw Tr2 18 (47 + r2) (S 7 r2)) 18 (52 + r2) (S 8 r2)) 18 (57 + r2) (S 9 r2))) hX 18 rfl (57 + r2) (by omega) (by decide) (rfl) dM_keep_163 (setM_S_18 Z h q (sw (sw Tr2 18 (47 + r2) (S 7 r2)) 18 (52 + r2) (S 8 r2)) (57 + r2) (S 9 r2)) ?_
              refine g_aload_n hX dM_keep_164 1 rfl ?_
              refine g_bipush (v := 62) hX dM_keep_165 (by decide) ?_
              refine g_iload_n hX dM_keep_167 2 rfl ?_
              refine g_iadd (z := (nI (62 + r2))) hX dM_keep_168 (nI_add 62 r2) ?_
              refine g_aload_n hX dM_keep_169 0 rfl ?_
              refine g_get hX 0 rfl rfl 12 (by decide) uu_M q_596 rfl rfl dM_keep_170 ?_
              refine g_iload_n hX dM_keep_173 2 rfl ?_
              refine g_ald (v := (S 10 r2)) hX 11 rfl r2 (by omega) (by decide) (rfl) (by first | exact congrFun (hq_r2.1 10 (by decide)) _ | (simp only [sw_ne, ne_eq, Nat.reduceEqDiff, not_false_eq_true]; exact congrFun (hq_r2.1 10 (by decide)) _)) dM_keep_174 ?_
              refine g_ast (ws1 := wM Z h q (sw (sw (sw (sw Tr2 18 (47 + r2) (S 7 r2)) 18 (52 + r2) (S 8 r2)) 18 (57 + r2) (S 9 r2)) 18 (62 + r2) (S 10 r2))) hX 18 rfl (62 + r2) (by omega) (by decide) (rfl) dM_keep_175 (setM_S_18 Z h q (sw (sw (sw Tr2 18 (47 + r2) (S 7 r2)) 18 (52 + r2) (S 8 r2)) 18 (57 + r2) (S 9 r2)) (62 + r2) (S 10 r2)) ?_
              refine g_iinc (v := (nI (r2 + 1))) (lv1 := [(0, .ref h), (1, .ref (q 18)), (2, .int (nI (r2 + 1)))]) hX dM_keep_176 2 rfl (inc_nat _) (by decide) [1, 2, 0] rfl ?_
              refine g_goto hX 123 dM_keep_179 (by decide) ?_
              exact ih_r2 (sw (sw (sw (sw Tr2 18 (47 + r2) (S 7 r2)) 18 (52 + r2) (S 8 r2)) 18 (57 + r2) (S 9 r2)) 18 (62 + r2) (S 10 r2)) (((((hq_r2.put (47 + r2) (v := S 7 r2) (pk_7 S (by omega)).symm).put (52 + r2) (v := S 8 r2) (pk_8 S (by omega)).symm).put (57 + r2) (v := S 9 r2) (pk_9 S (by omega)).symm).put (62 + r2) (v := S 10 r2) (pk_10 S (by omega)).symm).mono (fun j hj => by omega))
          exact hL_123 0 (Nat.zero_le _) Tr1 (hq_r1.mono (fun j hj => by omega))
        · intro Tr1 hq_r1
          refine g_iload_n hX dM_keep_49 2 rfl ?_
          refine g_bipush (v := 7) hX dM_keep_50 (by decide) ?_
          refine g_icmp_ge hX 121 dM_keep_52 (by decide) (fun c_52 => absurd c_52 (nI_ge (a := r1) (b := 7) hi_r1 (by omega))) (fun c_52 => ?_)
          refine g_aload_n hX dM_keep_55 1 rfl ?_
          refine g_bipush (v := 12) hX dM_keep_56 (by decide) ?_
          refine g_iload_n hX dM_keep_58 2 rfl ?_
          refine g_iadd (z := (nI (12 + r1))) hX dM_keep_59 (nI_add 12 r1) ?_
          refine g_aload_n hX dM_keep_60 0 rfl ?_
          refine g_get hX 0 rfl rfl 3 (by decide) uu_M q_587 rfl rfl dM_keep_61 ?_
          refine g_iload_n hX dM_keep_64 2 rfl ?_
          refine g_ald (v := (S 2 r1)) hX 3 rfl r1 (by omega) (by decide) (rfl) (by first | exact congrFun (hq_r1.1 2 (by decide)) _ | (simp only [sw_ne, ne_eq, Nat.reduceEqDiff, not_false_eq_true]; exact congrFun (hq_r1.1 2 (by decide)) _)) dM_keep_65 ?_
          refine g_ast (ws1 := wM Z h q (sw Tr1 18 (12 + r1) (S 2 r1))) hX 18 rfl (12 + r1) (by omega) (by decide) (rfl) dM_keep_66 (setM_S_18 Z h q Tr1 (12 + r1) (S 2 r1)) ?_
          refine g_aload_n hX dM_keep_67 1 rfl ?_
          refine g_bipush (v := 19) hX dM_keep_68 (by decide) ?_
          refine g_iload_n hX dM_keep_70 2 rfl ?_
          refine g_iadd (z := (nI (19 + r1))) hX dM_keep_71 (nI_add 19 r1) ?_
          refine g_aload_n hX dM_keep_72 0 rfl ?_
          refine g_get hX 0 rfl rfl 4 (by decide) uu_M q_588 rfl rfl dM_keep_73 ?_
          refine g_iload_n hX dM_keep_76 2 rfl ?_
          refine g_ald (v := (S 3 r1)) hX 4 rfl r1 (by omega) (by decide) (rfl) (by first | exact congrFun (hq_r1.1 3 (by decide)) _ | (simp only [sw_ne, ne_eq, Nat.reduceEqDiff, not_false_eq_true]; exact congrFun (hq_r1.1 3 (by decide)) _)) dM_keep_77 ?_
          refine g_ast (ws1 := wM Z h q (sw (sw Tr1 18 (12 + r1) (S 2 r1)) 18 (19 + r1) (S 3 r1))) hX 18 rfl (19 + r1) (by omega) (by decide) (rfl) dM_keep_78 (setM_S_18 Z h q (sw Tr1 18 (12 + r1) (S 2 r1)) (19 + r1) (S 3 r1)) ?_
          refine g_aload_n hX dM_keep_79 1 rfl ?_
          refine g_bipush (v := 26) hX dM_keep_80 (by decide) ?_
          refine g_iload_n hX dM_keep_82 2 rfl ?_
          refine g_iadd (z := (nI (26 + r1))) hX dM_keep_83 (nI_add 26 r1) ?_
          refine g_aload_n hX dM_keep_84 0 rfl ?_
          refine g_get hX 0 rfl rfl 5 (by decide) uu_M q_589 rfl rfl dM_keep_85 ?_
          refine g_iload_n hX dM_keep_88 2 rfl ?_
          refine g_ald (v := (S 4 r1)) hX 5 rfl r1 (by omega) (by decide) (rfl) (by first | exact congrFun (hq_r1.1 4 (by decide)) _ | (simp only [sw_ne, ne_eq, Nat.reduceEqDiff, not_false_eq_true]; exact congrFun (hq_r1.1 4 (by decide)) _)) dM_keep_89 ?_
          refine g_ast (ws1 := wM Z h q (sw (sw (sw Tr1 18 (12 + r1) (S 2 r1)) 18 (19 + r1) (S 3 r1)) 18 (26 + r1) (S 4 r1))) hX 18 rfl (26 + r1) (by omega) (by decide) (rfl) dM_keep_90 (setM_S_18 Z h q (sw (sw Tr1 18 (12 + r1) (S 2 r1)) 18 (19 + r1) (S 3 r1)) (26 + r1) (S 4 r1)) ?_
          refine g_aload_n hX dM_keep_91 1 rfl ?_
          refine g_bipush (v := 33) hX dM_keep_92 (by decide) ?_
          refine g_iload_n hX dM_keep_94 2 rfl ?_
          refine g_iadd (z := (nI (33 + r1))) hX dM_keep_95 (nI_add 33 r1) ?_
          refine g_aload_n hX dM_keep_96 0 rfl ?_
          refine g_get hX 0 rfl rfl 6 (by decide) uu_M q_590 rfl rfl dM_keep_97 ?_
          refine g_iload_n hX dM_keep_100 2 rfl ?_
          refine g_ald (v := (S 5 r1)) hX 6 rfl r1 (by omega) (by decide) (rfl) (by first | exact congrFun (hq_r1.1 5 (by decide)) _ | (simp only [sw_ne, ne_eq, Nat.reduceEqDiff, not_false_eq_true]; exact congrFun (hq_r1.1 5 (by decide)) _)) dM_keep_101 ?_
          refine g_ast (ws1 := wM Z h q (sw (sw (sw (sw Tr1 18 (12 + r1) (S 2 r1)) 18 (19 + r1) (S 3 r1)) 18 (26 + r1) (S 4 r1)) 18 (33 + r1) (S 5 r1))) hX 18 rfl (33 + r1) (by omega) (by decide) (rfl) dM_keep_102 (setM_S_18 Z h q (sw (sw (sw Tr1 18 (12 + r1) (S 2 r1)) 18 (19 + r1) (S 3 r1)) 18 (26 + r1) (S 4 r1)) (33 + r1) (S 5 r1)) ?_
          refine g_aload_n hX dM_keep_103 1 rfl ?_
          refine g_bipush (v := 40) hX dM_keep_104 (by decide) ?_
          refine g_iload_n hX dM_keep_106 2 rfl ?_
          refine g_iadd (z := (nI (40 + r1))) hX dM_keep_107 (nI_add 40 r1) ?_
          refine g_aload_n hX dM_keep_108 0 rfl ?_
          refine g_get hX 0 rfl rfl 7 (by decide) uu_M q_591 rfl rfl dM_keep_109 ?_
          refine g_iload_n hX dM_keep_112 2 rfl ?_
          refine g_ald (v := (S 6 r1)) hX 7 rfl r1 (by omega) (by decide) (rfl) (by first | exact congrFun (hq_r1.1 6 (by decide)) _ | (simp only [sw_ne, ne_eq, Nat.reduceEqDiff, not_false_eq_true]; exact congrFun (hq_r1.1 6 (by decide)) _)) dM_keep_113 ?_
          refine g_ast (ws1 := wM Z h q (sw (sw (sw (sw (sw Tr1 18 (12 + r1) (S 2 r1)) 18 (19 + r1) (S 3 r1)) 18 (26 + r1) (S 4 r1)) 18 (33 + r1) (S 5 r1)) 18 (40 + r1) (S 6 r1))) hX 18 rfl (40 + r1) (by omega) (by decide) (rfl) dM_keep_114 (setM_S_18 Z h q (sw (sw (sw (sw Tr1 18 (12 + r1) (S 2 r1)) 18 (19 + r1) (S 3 r1)) 18 (26 + r1) (S 4 r1)) 18 (33 + r1) (S 5 r1)) (40 + r1) (S 6 r1)) ?_
          refine g_iinc (v := (nI (r1 + 1))) (lv1 := [(0, .ref h), (1, .ref (q 18)), (2, .int (nI (r1 + 1)))]) hX dM_keep_115 2 rfl (inc_nat _) (by decide) [1, 2, 0] rfl ?_
          refine g_goto hX 49 dM_keep_118 (by decide) ?_
          exact ih_r1 (sw (sw (sw (sw (sw Tr1 18 (12 + r1) (S 2 r1)) 18 (19 + r1) (S 3 r1)) 18 (26 + r1) (S 4 r1)) 18 (33 + r1) (S 5 r1)) 18 (40 + r1) (S 6 r1)) ((((((hq_r1.put (12 + r1) (v := S 2 r1) (pk_2 S (by omega)).symm).put (19 + r1) (v := S 3 r1) (pk_3 S (by omega)).symm).put (26 + r1) (v := S 4 r1) (pk_4 S (by omega)).symm).put (33 + r1) (v := S 5 r1) (pk_5 S (by omega)).symm).put (40 + r1) (v := S 6 r1) (pk_6 S (by omega)).symm).mono (fun j hj => by omega))
      exact hL_49 0 (Nat.zero_le _) Tr0 (hq_r0.mono (fun j hj => by omega))
    · intro Tr0 hq_r0
      refine g_iload_n hX dM_keep_2 2 rfl ?_
      refine g_bipush (v := 6) hX dM_keep_3 (by decide) ?_
      refine g_icmp_ge hX 47 dM_keep_5 (by decide) (fun c_5 => absurd c_5 (nI_ge (a := r0) (b := 6) hi_r0 (by omega))) (fun c_5 => ?_)
      refine g_aload_n hX dM_keep_8 1 rfl ?_
      refine g_iload_n hX dM_keep_9 2 rfl ?_
      refine g_aload_n hX dM_keep_10 0 rfl ?_
      refine g_get hX 0 rfl rfl 0 (by decide) uu_M q_584 rfl rfl dM_keep_11 ?_
      refine g_iload_n hX dM_keep_14 2 rfl ?_
      refine g_ald (v := (S 0 r0)) hX 1 rfl r0 (by omega) (by decide) (rfl) (by first | exact congrFun (hq_r0.1 0 (by decide)) _ | (simp only [sw_ne, ne_eq, Nat.reduceEqDiff, not_false_eq_true]; exact congrFun (hq_r0.1 0 (by decide)) _)) dM_keep_15 ?_
      refine g_ast (ws1 := wM Z h q (sw Tr0 18 r0 (S 0 r0))) hX 18 rfl r0 (by omega) (by decide) (rfl) dM_keep_16 (setM_S_18 Z h q Tr0 r0 (S 0 r0)) ?_
      refine g_aload_n hX dM_keep_17 1 rfl ?_
      refine g_bipush (v := 6) hX dM_keep_18 (by decide) ?_
      refine g_iload_n hX dM_keep_20 2 rfl ?_
      refine g_iadd (z := (nI (6 + r0))) hX dM_keep_21 (nI_add 6 r0) ?_
      refine g_aload_n hX dM_keep_22 0 rfl ?_
      refine g_get hX 0 rfl rfl 1 (by decide) uu_M q_585 rfl rfl dM_keep_23 ?_
      refine g_iload_n hX dM_keep_26 2 rfl ?_
      refine g_ald (v := (S 1 r0)) hX 2 rfl r0 (by omega) (by decide) (rfl) (by first | exact congrFun (hq_r0.1 1 (by decide)) _ | (simp only [sw_ne, ne_eq, Nat.reduceEqDiff, not_false_eq_true]; exact congrFun (hq_r0.1 1 (by decide)) _)) dM_keep_27 ?_
      refine g_ast (ws1 := wM Z h q (sw (sw Tr0 18 r0 (S 0 r0)) 18 (6 + r0) (S 1 r0))) hX 18 rfl (6 + r0) (by omega) (by decide) (rfl) dM_keep_28 (setM_S_18 Z h q (sw Tr0 18 r0 (S 0 r0)) (6 + r0) (S 1 r0)) ?_
      refine g_aload_n hX dM_keep_29 1 rfl ?_
      refine g_bipush (v := 67) hX dM_keep_30 (by decide) ?_
      refine g_iload_n hX dM_keep_32 2 rfl ?_
      refine g_iadd (z := (nI (67 + r0))) hX dM_keep_33 (nI_add 67 r0) ?_
      refine g_aload_n hX dM_keep_34 0 rfl ?_
      refine g_get hX 0 rfl rfl 14 (by decide) uu_M q_598 rfl rfl dM_keep_35 ?_
      refine g_iload_n hX dM_keep_38 2 rfl ?_
      refine g_ald (v := (S 11 r0)) hX 12 rfl r0 (by omega) (by decide) (rfl) (by first | exact congrFun (hq_r0.1 11 (by decide)) _ | (simp only [sw_ne, ne_eq, Nat.reduceEqDiff, not_false_eq_true]; exact congrFun (hq_r0.1 11 (by decide)) _)) dM_keep_39 ?_
      refine g_ast (ws1 := wM Z h q (sw (sw (sw Tr0 18 r0 (S 0 r0)) 18 (6 + r0) (S 1 r0)) 18 (67 + r0) (S 11 r0))) hX 18 rfl (67 + r0) (by omega) (by decide) (rfl) dM_keep_40 (setM_S_18 Z h q (sw (sw Tr0 18 r0 (S 0 r0)) 18 (6 + r0) (S 1 r0)) (67 + r0) (S 11 r0)) ?_
      refine g_iinc (v := (nI (r0 + 1))) (lv1 := [(0, .ref h), (1, .ref (q 18)), (2, .int (nI (r0 + 1)))]) hX dM_keep_41 2 rfl (inc_nat _) (by decide) [1, 2, 0] rfl ?_
      refine g_goto hX 2 dM_keep_44 (by decide) ?_
      exact ih_r0 (sw (sw (sw Tr0 18 r0 (S 0 r0)) 18 (6 + r0) (S 1 r0)) 18 (67 + r0) (S 11 r0)) ((((hq_r0.put r0 (v := S 0 r0) (pk_0 S (by omega)).symm).put (6 + r0) (v := S 1 r0) (pk_1 S (by omega)).symm).put (67 + r0) (v := S 11 r0) (pk_11 S (by omega)).symm).mono (fun j hj => by omega))
  exact hL_2 0 (Nat.zero_le _) S (⟨fun _ _ => rfl, fun j hj => by omega⟩)
